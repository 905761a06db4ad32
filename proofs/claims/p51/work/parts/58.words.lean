theorem m1350 : (.fieldLink RX11 80 "WallVotesModel" "isKept" "[Z" : Cond) ∈ gt := gt_in 1350 (by decide +kernel) (by decide +kernel)
