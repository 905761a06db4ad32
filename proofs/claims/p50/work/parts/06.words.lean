theorem m172 : (.fieldLink RX7 65 "WallVotes$Town" "wide" "I" : Cond) ∈ gt := gt_in 172 (by decide +kernel) (by decide +kernel)
theorem m175 : (.fieldLink RX7 58 "WallVotes$Town" "high" "I" : Cond) ∈ gt := gt_in 175 (by decide +kernel) (by decide +kernel)
theorem m179 : (.fieldLink RX7 62 "WallVotes$Town" "bond" "I" : Cond) ∈ gt := gt_in 179 (by decide +kernel) (by decide +kernel)
