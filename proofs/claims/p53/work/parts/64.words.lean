theorem m1312 : (.methodLink RX11 1 objectInit : Cond) ∈ gt := gt_in 1312 (by decide +kernel) (by decide +kernel)
theorem m1313 : (.constant RX11 89 (65536) : Cond) ∈ gt := gt_in 1313 (by decide +kernel) (by decide +kernel)
