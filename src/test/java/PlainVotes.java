import java.util.ArrayList;
import java.util.HashMap;
import java.util.HashSet;
import java.util.List;
import java.util.Map;
import java.util.Set;
import java.util.TreeMap;
import java.util.regex.Matcher;
import java.util.regex.Pattern;

/** The document once more, word by word and with no thought of speed, to compare answers with. */
public final class PlainVotes {
    private static final class Fault extends RuntimeException {
        private static final long serialVersionUID = 1L;
        final int kind;
        final int place;

        Fault(int kind, int place) {
            this.kind = kind;
            this.place = place;
        }
    }

    private record Token(String text, int place) { }

    private record Sort(int weight, int bears, int many) { }

    private record Voter(String wants, String places, int near, boolean heavy, int carries, int far,
                         int from, int to) { }

    private record Stone(int sort, int hand, int year) { }

    /** What an IMAGE keeps. */
    private static final class World {
        int lines;
        int wide;
        int high;
        int bond;
        int odds;
        int mason;
        int rule;
        int year;
        int last = 2;
        int laid;
        List<Sort> sorts = new ArrayList<>();
        List<Voter> voters = new ArrayList<>();
        List<List<List<Stone>>> sides = List.of(new ArrayList<>(), new ArrayList<>());
        List<Integer> pile = new ArrayList<>();
        List<Integer> winners = new ArrayList<>();
        Map<Integer, int[]> ballots = new HashMap<>();

        World copy() {
            World w = new World();
            w.lines = lines;
            w.wide = wide;
            w.high = high;
            w.bond = bond;
            w.odds = odds;
            w.mason = mason;
            w.rule = rule;
            w.year = year;
            w.last = last;
            w.laid = laid;
            w.sorts.addAll(sorts);
            w.voters.addAll(voters);
            for (int s = 0; s < 2; s++) {
                for (List<Stone> column : sides.get(s)) {
                    w.sides.get(s).add(new ArrayList<>(column));
                }
            }
            w.pile.addAll(pile);
            w.winners.addAll(winners);
            ballots.forEach((y, b) -> w.ballots.put(y, b.clone()));
            return w;
        }

        List<Stone> column(int side, int c) {
            return sides.get(side).get(c);
        }

        int weight(Stone s) {
            return sorts.get(s.sort()).weight();
        }

        int weightOn(List<Stone> column, int z) {
            int sum = 0;
            for (int i = z + 1; i < column.size(); i++) {
                sum += weight(column.get(i));
            }
            return sum;
        }

        boolean mayLay(int side, int c, int weight) {
            List<Stone> column = column(side, c);
            if (column.size() >= high) {
                return false;
            }
            for (int z = 0; z < column.size(); z++) {
                if (weightOn(column, z) + weight > sorts.get(column.get(z).sort()).bears()) {
                    return false;
                }
            }
            for (int beside : new int[] {c - 1, c + 1}) {
                if (beside >= 0 && beside < wide
                        && column.size() + 1 - column(side, beside).size() > bond) {
                    return false;
                }
            }
            return true;
        }

        void put(int side, int c, int sort, int hand) {
            column(side, c).add(new Stone(sort, hand, year));
            pile.set(sort, pile.get(sort) - 1);
        }

        int pull(int side, int c) {
            List<Stone> column = column(side, c);
            int sort = column.remove(column.size() - 1).sort();
            pile.set(sort, pile.get(sort) + 1);
            return sort;
        }

        int tally(int side, int byRule) {
            int stones = 0;
            int weight = 0;
            int highest = 0;
            for (List<Stone> column : sides.get(side)) {
                stones += column.size();
                highest = Math.max(highest, column.size());
                for (Stone s : column) {
                    weight += weight(s);
                }
            }
            return byRule == 0 ? stones : byRule == 1 ? weight : highest;
        }

        int leader(int byRule) {
            int difference = tally(0, byRule) - tally(1, byRule);
            return difference > 0 ? 0 : difference < 0 ? 1 : 2;
        }

        boolean mayVote(int v) {
            return year >= voters.get(v).from() && year <= voters.get(v).to();
        }

        int sideWanted(int v) {
            return switch (voters.get(v).wants()) {
                case "east" -> 0;
                case "west" -> 1;
                case "winner" -> last == 2 ? 0 : last;
                default -> last == 2 ? 1 : 1 - last;
            };
        }

        int sortChosen(int v) {
            Voter voter = voters.get(v);
            int best = -1;
            for (int s = sorts.size() - 1; s >= 0; s--) {
                int weight = sorts.get(s).weight();
                if (pile.get(s) == 0 || weight > voter.carries()) {
                    continue;
                }
                if (best < 0 || (voter.heavy() ? weight >= sorts.get(best).weight()
                        : weight <= sorts.get(best).weight())) {
                    best = s;
                }
            }
            return best;
        }

        int columnChosen(int v) {
            int sort = sortChosen(v);
            if (sort < 0) {
                return -1;
            }
            Voter voter = voters.get(v);
            int side = sideWanted(v);
            TreeMap<Integer, Integer> byMerit = new TreeMap<>();
            for (int c = 0; c < wide; c++) {
                if (mayLay(side, c, sorts.get(sort).weight())) {
                    int height = column(side, c).size();
                    int merit = switch (voter.places()) {
                        case "low" -> height;
                        case "high" -> 50 - height;
                        default -> Math.abs(c - voter.near());
                    };
                    byMerit.put(100 * merit + c, c);
                }
            }
            return byMerit.isEmpty() ? -1 : byMerit.firstEntry().getValue();
        }

        int castBy(int v) {
            int c = mayVote(v) ? columnChosen(v) : -1;
            if (c < 0) {
                return -1;
            }
            int side = sideWanted(v);
            put(side, c, sortChosen(v), v);
            ballots.computeIfAbsent(year, y -> new int[2])[side]++;
            laid++;
            return column(side, c).size();
        }

        int elect(int set) {
            for (int v = 0; v < voters.size(); v++) {
                if ((set & (1 << v)) != 0) {
                    castBy(v);
                }
            }
            if (leader(rule) != 2) {
                last = leader(rule);
            }
            winners.add(last);
            year++;
            return last;
        }

        int lying(int side, int year, int hand) {
            int sum = 0;
            for (List<Stone> column : sides.get(side)) {
                for (Stone s : column) {
                    boolean his = hand == -2 ? s.hand() >= 0 : s.hand() == hand;
                    if (his && (year < 0 || s.year() == year)) {
                        sum++;
                    }
                }
            }
            return sum;
        }

        int gone() {
            return laid - lying(0, -1, -2) - lying(1, -1, -2);
        }

        int stormBy(Draws draws) {
            int fell = 0;
            for (int side = 0; side < 2; side++) {
                for (int c = 0; c < wide; c++) {
                    if (!column(side, c).isEmpty() && draws.next() < odds) {
                        pull(side, c);
                        fell++;
                    }
                }
            }
            return fell;
        }

        int goOn(long seed, int n) {
            Draws draws = new Draws(seed);
            int east = 0;
            for (int i = 0; i < n; i++) {
                stormBy(draws);
                if (elect((1 << voters.size()) - 1) == 0) {
                    east++;
                }
            }
            return east;
        }

        /** PARTS by the set of fallen ones: bit 8 times the SIDE and the COLUMN. */
        Map<Integer, Long> galeParts() {
            Map<Integer, Long> parts = new HashMap<>();
            parts.put(0, 1_000_000_000_000L);
            for (int side = 0; side < 2; side++) {
                for (int c = 0; c < wide; c++) {
                    if (column(side, c).isEmpty()) {
                        continue;
                    }
                    Map<Integer, Long> next = new HashMap<>();
                    for (Map.Entry<Integer, Long> e : parts.entrySet()) {
                        long down = e.getValue() * odds / 100;
                        next.merge(e.getKey() | 1 << 8 * side + c, down, Long::sum);
                        next.merge(e.getKey(), e.getValue() - down, Long::sum);
                    }
                    parts = next;
                }
            }
            return parts;
        }

        World fallen(int set) {
            World w = copy();
            for (int bit = 0; bit < 16; bit++) {
                if ((set >> bit & 1) == 1) {
                    w.pull(bit / 8, bit % 8);
                }
            }
            return w;
        }

        int farOf(int set) {
            int far = 0;
            for (int v = 0; v < voters.size(); v++) {
                far += (set >> v & 1) * voters.get(v).far();
            }
            return far;
        }
    }

    private static final class Draws {
        private long x;

        Draws(long seed) {
            x = seed;
        }

        int next() {
            x = Math.floorMod(1103515245L * x + 12345L, 1L << 31);
            return (int) ((x >> 16) % 100);
        }
    }

    private final List<Byte> tape = new ArrayList<>();
    private final World[] images = new World[3];
    private final long[][] rows = new long[4][];
    private final int[] widths = new int[4];
    private World w = new World();
    private int kind = 0;
    private int place = -1;

    public int feed(int a, int b, int c, int d, int e) {
        if (tape.size() > 1580) {
            return -1;
        }
        for (int number : new int[] {a, b, c, d, e}) {
            for (byte one : java.nio.ByteBuffer.allocate(4).putInt(number).array()) {
                tape.add(one);
            }
        }
        return tape.size();
    }

    public int end(int n) {
        if (n < 0 || n > tape.size()) {
            return -1;
        }
        tape.subList(n, tape.size()).clear();
        return n;
    }

    public int town() {
        try {
            w = parse();
            kind = 0;
            place = -1;
            tape.clear();
            return w.lines;
        } catch (Fault f) {
            kind = f.kind;
            place = f.place;
            return -4;
        }
    }

    private List<Token> tokens = new ArrayList<>();
    private int at;

    private World parse() {
        StringBuilder text = new StringBuilder();
        for (byte b : tape) {
            text.append((char) (b & 255));
        }
        tokens = new ArrayList<>();
        at = 0;
        Matcher m = Pattern.compile("[a-z]+|[0-9]+|[^ \n]", Pattern.DOTALL).matcher(text);
        while (m.find()) {
            tokens.add(new Token(m.group(), m.start()));
        }
        tokens.add(new Token("", text.length()));
        World world = new World();
        boolean[] told = new boolean[3];
        while (!peek().text().isEmpty()) {
            Token first = next();
            if (first.text().equals("wall") != (world.lines == 0)) {
                throw new Fault(1, first.place());
            }
            switch (first.text()) {
                case "wall" -> {
                    world.wide = value("wide", 1, 8);
                    world.high = value("high", 1, 12);
                    world.bond = value("bond", 1, 12);
                }
                case "sort" -> {
                    if (world.sorts.size() == 5) {
                        throw new Fault(3, first.place());
                    }
                    world.sorts.add(new Sort(value("weight", 1, 9), value("bears", 0, 99),
                            value("many", 0, 60)));
                }
                case "voter" -> world.voters.add(voter(world, first));
                case "rule" -> {
                    once(told, 0, first);
                    world.rule = oneOf("more", "heavier", "higher");
                }
                case "storm" -> {
                    once(told, 1, first);
                    world.odds = number(0, 100);
                }
                case "mason" -> {
                    once(told, 2, first);
                    world.mason = number(0, 99);
                }
                default -> throw new Fault(1, first.place());
            }
            oneOf(";");
            world.lines++;
        }
        for (Sort s : world.sorts) {
            world.pile.add(s.many());
        }
        for (int c = 0; c < world.wide; c++) {
            world.sides.get(0).add(new ArrayList<>());
            world.sides.get(1).add(new ArrayList<>());
        }
        return world;
    }

    private Voter voter(World world, Token first) {
        if (world.voters.size() == 10) {
            throw new Fault(3, first.place());
        }
        String wants = List.of("east", "west", "winner", "loser")
                .get(oneOf("east", "west", "winner", "loser"));
        String places = List.of("low", "high", "near").get(oneOf("low", "high", "near"));
        int near = places.equals("near") ? number(0, world.wide - 1) : 0;
        boolean heavy = oneOf("light", "heavy") == 1;
        int carries = value("carries", 1, 9);
        int far = value("far", 0, 99);
        int from = peek().text().equals("from") ? value("from", 0, 99) : 0;
        int to = peek().text().equals("to") ? value("to", from, 99) : 99;
        return new Voter(wants, places, near, heavy, carries, far, from, to);
    }

    private void once(boolean[] told, int which, Token word) {
        if (told[which]) {
            throw new Fault(2, word.place());
        }
        told[which] = true;
    }

    private Token peek() {
        return tokens.get(at);
    }

    private Token next() {
        return tokens.get(at++);
    }

    private int oneOf(String... words) {
        Token t = next();
        int which = List.of(words).indexOf(t.text());
        if (which < 0) {
            throw new Fault(1, t.place());
        }
        return which;
    }

    private int number(int least, int most) {
        Token t = next();
        if (!t.text().matches("[0-9]+")) {
            throw new Fault(1, t.place());
        }
        java.math.BigInteger v = new java.math.BigInteger(t.text());
        if (v.bitLength() > 20 || v.intValue() < least || v.intValue() > most) {
            throw new Fault(2, t.place());
        }
        return v.intValue();
    }

    private int value(String word, int least, int most) {
        oneOf(word);
        return number(least, most);
    }

    private boolean noTown() {
        return w.lines == 0;
    }

    private boolean noSide(int side) {
        return noTown() || side != 0 && side != 1;
    }

    private boolean noColumn(int side, int column) {
        return noSide(side) || column < 0 || column >= w.wide;
    }

    private boolean noSort(int sort) {
        return sort < 0 || sort >= w.sorts.size();
    }

    private boolean noVoter(int voter) {
        return voter < 0 || voter >= w.voters.size();
    }

    private boolean noSet(int set) {
        return noTown() || set < 0 || set > (1 << w.voters.size()) - 1;
    }

    private boolean noYear(int year) {
        return year < 0 || year >= w.winners.size();
    }

    public int fault(int what) {
        return what == 0 ? kind : what == 1 ? place : -1;
    }

    public int may(int side, int column, int sort) {
        if (noColumn(side, column) || noSort(sort)) {
            return -2;
        }
        return w.mayLay(side, column, w.sorts.get(sort).weight()) ? 1 : 0;
    }

    public int lay(int side, int column, int sort) {
        int may = may(side, column, sort);
        if (may == -2) {
            return -2;
        }
        if (w.pile.get(sort) == 0) {
            return -3;
        }
        if (may == 0) {
            return -5;
        }
        w.put(side, column, sort, -1);
        return w.column(side, column).size();
    }

    public int take(int side, int column) {
        if (noColumn(side, column)) {
            return -2;
        }
        return w.column(side, column).isEmpty() ? -5 : w.pull(side, column);
    }

    public int stone(int side, int column, int z, int what) {
        if (noColumn(side, column) || what < 0 || what > 3) {
            return -2;
        }
        List<Stone> stones = w.column(side, column);
        if (z < 0 || z >= stones.size()) {
            return -1;
        }
        Stone s = stones.get(z);
        return new int[] {s.sort(), s.hand(), s.year(), w.weightOn(stones, z)}[what];
    }

    public int side(int side, int what) {
        if (noSide(side) || what < 0 || what > 4) {
            return -2;
        }
        if (what < 4) {
            return w.tally(side, what == 3 ? w.rule : what);
        }
        int open = 0;
        for (int c = 0; c + 1 < w.wide; c++) {
            int one = w.column(side, c).size();
            int other = w.column(side, c + 1).size();
            if (one > other + w.bond || other > one + w.bond) {
                open++;
            }
        }
        return open;
    }

    public int pile(int sort) {
        return noSort(sort) ? -2 : w.pile.get(sort);
    }

    public int spare(int side, int column) {
        if (noColumn(side, column)) {
            return -2;
        }
        int greatest = 0;
        for (int weight = 1; weight <= 9; weight++) {
            if (w.mayLay(side, column, weight)) {
                greatest = weight;
            }
        }
        return greatest;
    }

    public int slack(int side) {
        if (noSide(side)) {
            return -2;
        }
        int least = Integer.MAX_VALUE;
        for (List<Stone> column : w.sides.get(side)) {
            for (int z = 0; z < column.size(); z++) {
                int bears = w.sorts.get(column.get(z).sort()).bears();
                least = Math.min(least, bears - w.weightOn(column, z));
            }
        }
        return least == Integer.MAX_VALUE ? -1 : least;
    }

    public int fill(int side, int sort) {
        if (noSide(side) || noSort(sort)) {
            return -2;
        }
        World t = w.copy();
        int many = 0;
        while (many < 200) {
            int best = -1;
            for (int c = t.wide - 1; c >= 0; c--) {
                if (t.mayLay(side, c, t.sorts.get(sort).weight())
                        && (best < 0 || t.column(side, c).size() <= t.column(side, best).size())) {
                    best = c;
                }
            }
            if (best < 0) {
                break;
            }
            t.put(side, best, sort, -1);
            many++;
        }
        return many;
    }

    public int leads() {
        return noTown() ? -2 : w.leader(w.rule);
    }

    public int would(int voter, int what) {
        if (noVoter(voter) || what < 0 || what > 2) {
            return -2;
        }
        return what == 0 ? w.sideWanted(voter) : what == 1 ? w.sortChosen(voter)
                : w.columnChosen(voter);
    }

    public int vote(int voter) {
        return noVoter(voter) ? -2 : w.castBy(voter);
    }

    public int election(int set) {
        return noSet(set) ? -2 : w.year == 100 ? -3 : w.elect(set);
    }

    public int result(int set) {
        return noSet(set) ? -2 : w.year == 100 ? -3 : w.copy().elect(set);
    }

    public int won(int year) {
        return noYear(year) ? -2 : w.winners.get(year);
    }

    public int votes(int year, int side) {
        if (noYear(year) || noSide(side)) {
            return -2;
        }
        return w.ballots.getOrDefault(year, new int[2])[side];
    }

    public int still(int year, int side) {
        return noYear(year) || noSide(side) ? -2 : w.lying(side, year, -2);
    }

    public int lost() {
        return noTown() ? -1 : w.gone();
    }

    public int read(int year) {
        if (noYear(year)) {
            return -2;
        }
        int difference = w.lying(0, year, -2) - w.lying(1, year, -2);
        if (Math.abs(difference) <= w.gone()) {
            return 2;
        }
        return difference > 0 ? 0 : 1;
    }

    public int hands(int voter) {
        return noVoter(voter) ? -2 : w.lying(0, -1, voter) + w.lying(1, -1, voter);
    }

    public int ghosts(int side) {
        if (noSide(side)) {
            return -2;
        }
        int sum = 0;
        for (List<Stone> column : w.sides.get(side)) {
            for (Stone s : column) {
                if (s.hand() >= 0 && !w.mayVote(s.hand())) {
                    sum++;
                }
            }
        }
        return sum;
    }

    public int pivot(int what) {
        if (noTown() || what != 0 && what != 1) {
            return -2;
        }
        if (w.year == 100) {
            return -3;
        }
        int all = (1 << w.voters.size()) - 1;
        int due = w.copy().elect(all);
        for (int many = 1; many <= w.voters.size(); many++) {
            for (int away = 1; away <= all; away++) {
                if (Integer.bitCount(away) == many && w.copy().elect(all - away) != due) {
                    return what == 0 ? many : away;
                }
            }
        }
        return -1;
    }

    private int aheadBy(int set, int side) {
        World t = w.copy();
        t.elect(set);
        return t.tally(side, t.rule) - t.tally(1 - side, t.rule);
    }

    public int fetch(int side, int budget) {
        if (noSide(side) || budget < 0 || budget > 999) {
            return -2;
        }
        if (w.year == 100) {
            return -3;
        }
        int best = 0;
        int bestAhead = aheadBy(0, side);
        for (int set = 1; set < 1 << w.voters.size(); set++) {
            if (w.farOf(set) > budget) {
                continue;
            }
            int ahead = aheadBy(set, side);
            if (ahead > bestAhead || ahead == bestAhead && w.farOf(set) < w.farOf(best)) {
                best = set;
                bestAhead = ahead;
            }
        }
        return best;
    }

    public int margin(int side, int budget) {
        int set = fetch(side, budget);
        return set < 0 ? -1000000 : aheadBy(set, side);
    }

    public int cheap(int side) {
        if (noSide(side)) {
            return -2;
        }
        if (w.year == 100) {
            return -3;
        }
        int least = -1;
        for (int set = 0; set < 1 << w.voters.size(); set++) {
            if (aheadBy(set, side) > 0 && (least < 0 || w.farOf(set) < least)) {
                least = w.farOf(set);
            }
        }
        return least;
    }

    /** All rows of so many STONES, in their order, as lists of numbers. */
    private void rowsOf(World t, int side, int many, List<Integer> row, List<List<Integer>> found) {
        if (many == 0) {
            if (t.leader(t.rule) == side) {
                found.add(new ArrayList<>(row));
            }
            return;
        }
        for (int number = 0; number < 80; number++) {
            int c = number / 10;
            int sort = number % 10;
            if (c >= t.wide || sort >= t.sorts.size() || t.pile.get(sort) == 0
                    || !t.mayLay(side, c, t.sorts.get(sort).weight())) {
                continue;
            }
            t.put(side, c, sort, -1);
            row.add(number);
            rowsOf(t, side, many - 1, row, found);
            row.remove(row.size() - 1);
            t.pull(side, c);
        }
    }

    public int turn(int side, int what) {
        if (noSide(side) || what < 0 || what > 1) {
            return -2;
        }
        if (w.leader(w.rule) == side) {
            return what == 0 ? 0 : -1;
        }
        for (int many = 1; many <= 3; many++) {
            List<List<Integer>> found = new ArrayList<>();
            rowsOf(w.copy(), side, many, new ArrayList<>(), found);
            if (!found.isEmpty()) {
                return what == 0 ? many : found.get(0).get(0);
            }
        }
        return -3;
    }

    public int bribe(int side) {
        if (noSide(side)) {
            return -2;
        }
        if (w.leader(w.rule) == side) {
            return 0;
        }
        int least = -3;
        for (int many = 1; many <= 3; many++) {
            List<List<Integer>> found = new ArrayList<>();
            rowsOf(w.copy(), side, many, new ArrayList<>(), found);
            for (List<Integer> row : found) {
                int price = 0;
                for (int number : row) {
                    price += w.mason * w.sorts.get(number % 10).weight();
                }
                least = least == -3 ? price : Math.min(least, price);
            }
        }
        return least;
    }

    private int tearDown(World t, int side, int from) {
        if (t.leader(t.rule) == side) {
            return 0;
        }
        int best = -1;
        for (int c = from; c < t.wide; c++) {
            if (t.column(1 - side, c).isEmpty()) {
                continue;
            }
            World u = t.copy();
            u.pull(1 - side, c);
            int more = tearDown(u, side, c);
            if (more >= 0 && (best < 0 || more + 1 < best)) {
                best = more + 1;
            }
        }
        return best;
    }

    public int tear(int side) {
        return noSide(side) ? -2 : tearDown(w, side, 0);
    }

    public long gale(int what) {
        if (noTown() || what < 0 || what > 2) {
            return -2;
        }
        long sum = 0;
        for (Map.Entry<Integer, Long> e : w.galeParts().entrySet()) {
            if (w.fallen(e.getKey()).leader(w.rule) == what) {
                sum += e.getValue();
            }
        }
        return sum;
    }

    public long falls(int n) {
        if (noTown() || n < 0 || n > 16) {
            return -2;
        }
        long sum = 0;
        for (Map.Entry<Integer, Long> e : w.galeParts().entrySet()) {
            if (Integer.bitCount(e.getKey()) == n) {
                sum += e.getValue();
            }
        }
        return sum;
    }

    public int power(int voter) {
        if (noVoter(voter)) {
            return -2;
        }
        if (w.year == 100) {
            return -3;
        }
        int sum = 0;
        for (int set = 0; set < 1 << w.voters.size(); set++) {
            if ((set & 1 << voter) == 0
                    && w.copy().elect(set) != w.copy().elect(set + (1 << voter))) {
                sum++;
            }
        }
        return sum;
    }

    public int span(int year, int side, int what) {
        if (noYear(year) || noSide(side) || what != 0 && what != 1) {
            return -2;
        }
        return w.lying(side, year, -2) + what * w.gone();
    }

    public int oldest(int side) {
        if (noSide(side)) {
            return -2;
        }
        for (int year = 0; year <= 100; year++) {
            if (w.lying(side, year, -2) > 0) {
                return year;
            }
        }
        return -1;
    }

    public int course(int side, int n) {
        if (noSide(side) || n < 1 || n > 12) {
            return -2;
        }
        int sum = 0;
        for (List<Stone> column : w.sides.get(side)) {
            sum += column.size() >= n ? 1 : 0;
        }
        return sum;
    }

    public int rise(int side, int column, int n) {
        if (noColumn(side, column) || n < 0 || n > 12) {
            return -2;
        }
        if (n > w.high) {
            return -1;
        }
        return Math.pow(w.high + 1, w.wide) < 1300 ? layUntil(side, column, n) : asked(side, column, n);
    }

    /** All heights that can be reached by one STONE more, and by one more, until it is high enough. */
    private int layUntil(int side, int column, int n) {
        List<Integer> start = new ArrayList<>();
        for (List<Stone> stones : w.sides.get(side)) {
            start.add(stones.size());
        }
        Set<List<Integer>> reached = Set.of(start);
        for (int laid = 0; laid < 100; laid++) {
            Set<List<Integer>> next = new HashSet<>();
            for (List<Integer> heights : reached) {
                if (heights.get(column) >= n) {
                    return laid;
                }
                for (int c = 0; c < w.wide; c++) {
                    List<Integer> higher = new ArrayList<>(heights);
                    higher.set(c, heights.get(c) + 1);
                    boolean left = c == 0 || higher.get(c) - higher.get(c - 1) <= w.bond;
                    boolean right = c + 1 == w.wide || higher.get(c) - higher.get(c + 1) <= w.bond;
                    if (higher.get(c) <= w.high && left && right) {
                        next.add(higher);
                    }
                }
            }
            reached = next;
        }
        return -99;
    }

    /** What is asked of a COLUMN goes over to those beside it until nothing is asked any more. */
    private int asked(int side, int column, int n) {
        int[] due = new int[w.wide];
        for (int c = 0; c < w.wide; c++) {
            due[c] = w.column(side, c).size();
        }
        due[column] = Math.max(due[column], n);
        for (int again = 0; again < 20; again++) {
            for (int c = 0; c < w.wide; c++) {
                for (int beside : new int[] {c - 1, c + 1}) {
                    boolean raised = due[c] > w.column(side, c).size();
                    if (raised && beside >= 0 && beside < w.wide) {
                        due[beside] = Math.max(due[beside], due[c] - w.bond);
                    }
                }
            }
        }
        int sum = 0;
        for (int c = 0; c < w.wide; c++) {
            sum += due[c] - w.column(side, c).size();
        }
        return sum;
    }

    public long mean(int side) {
        if (noSide(side)) {
            return -2;
        }
        long sum = 0;
        for (Map.Entry<Integer, Long> e : w.galeParts().entrySet()) {
            sum += e.getValue() * w.fallen(e.getKey()).tally(side, w.rule);
        }
        return sum / 1_000_000_000L;
    }

    private boolean noSeed(int seed) {
        return noTown() || seed < 0 || seed > 2_000_000_000;
    }

    public int storm(int seed) {
        return noSeed(seed) ? -2 : w.stormBy(new Draws(seed));
    }

    public int run(int seed, int n) {
        if (noSeed(seed) || n < 1 || n > 30) {
            return -2;
        }
        return w.year + n > 100 ? -3 : w.goOn(seed, n);
    }

    public int runs(int seed, int many, int n, int what) {
        if (noSeed(seed) || many < 1 || many > 20 || n < 1 || n > 30 || what < 0 || what > 2) {
            return -2;
        }
        if (w.year + n > 100) {
            return -3;
        }
        int sum = 0;
        for (long s = seed; s < (long) seed + many; s++) {
            World t = w.copy();
            t.goOn(s, n);
            if (what == 2) {
                sum += t.tally(0, 0) + t.tally(1, 0);
            } else if (t.winners.get(t.winners.size() - 1) == what) {
                sum++;
            }
        }
        return sum;
    }

    public int rule(int rule) {
        if (noTown() || rule < 0 || rule > 2) {
            return -2;
        }
        int was = w.rule;
        w.rule = rule;
        return was;
    }

    public int suits(int side) {
        if (noSide(side)) {
            return -2;
        }
        return w.leader(0) == side ? 0 : w.leader(1) == side ? 1 : w.leader(2) == side ? 2 : -1;
    }

    private int[] judged(int slot) {
        World t = w.copy();
        int many = 0;
        for (long number : rows[slot]) {
            long side = number / 1000;
            long column = number % 1000 / 10;
            long sort = number % 10;
            if (number < 0 || side > 1 || column >= t.wide || sort >= t.sorts.size()
                    || t.pile.get((int) sort) == 0
                    || !t.mayLay((int) side, (int) column, t.sorts.get((int) sort).weight())) {
                break;
            }
            t.put((int) side, (int) column, (int) sort, -1);
            many++;
        }
        return new int[] {many, t.leader(t.rule)};
    }

    private boolean noSlot(int slot) {
        return slot < 0 || slot > 3;
    }

    public int judge(int slot) {
        return noSlot(slot) || noTown() ? -2 : rows[slot] == null ? -6 : judged(slot)[0];
    }

    public int then(int slot) {
        return noSlot(slot) || noTown() ? -2 : rows[slot] == null ? -6 : judged(slot)[1];
    }

    public int count(int what) {
        int now = 0;
        for (int v = 0; v < w.voters.size(); v++) {
            now += w.mayVote(v) ? 1 << v : 0;
        }
        int held = 0;
        for (long[] row : rows) {
            held += row == null ? 0 : 1;
        }
        int[] all = {w.wide, w.high, w.bond, w.sorts.size(), w.voters.size(), w.year, w.last, w.lines,
            tape.size(), w.rule, w.odds, now, held};
        return what < 0 || what >= all.length ? -1 : all[what];
    }

    public int keep(int k) {
        if (k < 0 || k > 2) {
            return -2;
        }
        images[k] = w.copy();
        return 0;
    }

    public int back(int k) {
        if (k < 0 || k > 2) {
            return -2;
        }
        if (images[k] == null) {
            return -6;
        }
        w = images[k].copy();
        return 0;
    }

    public int row(int slot, int width, int n) {
        if (noSlot(slot) || width < 0 || width > 3 || n > 60) {
            return -2;
        }
        if (n < 0) {
            return -3;
        }
        rows[slot] = new long[n];
        widths[slot] = width;
        return 0;
    }

    public int write(int slot, int i, long v) {
        if (noSlot(slot)) {
            return -2;
        }
        if (rows[slot] == null) {
            return -6;
        }
        if (i < 0 || i >= rows[slot].length) {
            return -7;
        }
        int unused = 64 - (8 << widths[slot]);
        rows[slot][i] = v << unused >> unused;
        return 0;
    }

    public int paste(int slot, int i, int to, int k, int n) {
        if (noSlot(slot) || noSlot(to)) {
            return -2;
        }
        if (rows[slot] == null || rows[to] == null) {
            return -6;
        }
        if (widths[slot] != widths[to]) {
            return -8;
        }
        if (i < 0 || k < 0 || n < 0 || (long) i + n > rows[slot].length
                || (long) k + n > rows[to].length) {
            return -7;
        }
        long[] old = rows[slot].clone();
        for (int j = 0; j < n; j++) {
            rows[to][k + j] = old[i + j];
        }
        return 0;
    }
}
