/** All that an object shows without being changed, as one text; so two states can be compared. */
final class Picture {
    private final WallVotes x;
    private final StringBuilder seen = new StringBuilder();

    private Picture(WallVotes x) {
        this.x = x;
    }

    /** Without the TAPE and the FAULT, which a town() that is refused may change. */
    static String ofTown(WallVotes x) {
        Picture picture = new Picture(x);
        picture.look();
        return picture.seen.toString();
    }

    static String of(WallVotes x) {
        return ofTown(x) + " tape " + x.count(8) + " fault " + x.fault(0) + " " + x.fault(1);
    }

    private void look() {
        for (int what = 0; what <= 13; what++) {
            note("count", what == 8 ? 0 : x.count(what));
        }
        note("leads", x.leads());
        note("lost", x.lost());
        for (int side = 0; side < 2; side++) {
            lookAtSide(side);
            for (int column = 0; column < 8; column++) {
                lookAtColumn(side, column);
            }
        }
        for (int sort = 0; sort < 5; sort++) {
            note("pile", x.pile(sort));
        }
        for (int voter = 0; voter < 10; voter++) {
            lookAtVoter(voter);
        }
        for (int year = 0; year <= 100; year++) {
            lookAtYear(year);
        }
        for (int what = 0; what < 3; what++) {
            note("gale", x.gale(what));
            note("runs", x.runs(1, 2, 2, what));
        }
        for (int n = 0; n <= 16; n++) {
            note("falls", x.falls(n));
        }
        note("pivot", x.pivot(0));
        note("pivot", x.pivot(1));
        note("result", x.result(0));
        note("result", x.result((1 << x.count(4)) - 1));
        for (int slot = 0; slot < 4; slot++) {
            note("judge", x.judge(slot));
            note("then", x.then(slot));
        }
    }

    private void lookAtSide(int side) {
        for (int what = 0; what < 5; what++) {
            note("side", x.side(side, what));
        }
        for (int sort = 0; sort < 5; sort++) {
            note("fill", x.fill(side, sort));
        }
        for (int n = 1; n <= 12; n++) {
            note("course", x.course(side, n));
        }
        for (int budget = 0; budget < 999; budget += 99) {
            note("fetch", x.fetch(side, budget));
            note("margin", x.margin(side, budget));
        }
        note("slack", x.slack(side));
        note("ghosts", x.ghosts(side));
        note("cheap", x.cheap(side));
        note("turn", x.turn(side, 0));
        note("turn", x.turn(side, 1));
        note("bribe", x.bribe(side));
        note("tear", x.tear(side));
        note("oldest", x.oldest(side));
        note("suits", x.suits(side));
        note("mean", x.mean(side));
    }

    private void lookAtColumn(int side, int column) {
        note("spare", x.spare(side, column));
        for (int sort = 0; sort < 5; sort++) {
            note("may", x.may(side, column, sort));
        }
        for (int z = 0; z <= 12; z++) {
            note("rise", x.rise(side, column, z));
            for (int what = 0; what < 4; what++) {
                note("stone", x.stone(side, column, z, what));
            }
        }
    }

    private void lookAtVoter(int voter) {
        for (int what = 0; what < 3; what++) {
            note("would", x.would(voter, what));
        }
        note("hands", x.hands(voter));
        note("power", x.power(voter));
    }

    private void lookAtYear(int year) {
        note("won", x.won(year));
        note("read", x.read(year));
        for (int side = 0; side < 2; side++) {
            note("votes", x.votes(year, side));
            note("still", x.still(year, side));
            note("span", x.span(year, side, 0));
            note("span", x.span(year, side, 1));
        }
    }

    private void note(String call, long answer) {
        seen.append(call).append(' ').append(answer).append('\n');
    }
}
