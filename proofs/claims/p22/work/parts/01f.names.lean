set_option maxRecDepth 100000 in
theorem inX3 : ∀ w ∈ wsX30, w ∈ lw_tbl := fun w h => (goodIn_r wsX30 [91, 93, 95, 97, 99, 101, 103, 105] (by decide +kernel) (by decide +kernel) w h).1
set_option maxRecDepth 100000 in
theorem inX4 : ∀ w ∈ wsX40, w ∈ lw_tbl := fun w h => (goodIn_r wsX40 [140, 142] (by decide +kernel) (by decide +kernel) w h).1
set_option maxRecDepth 100000 in
theorem inX5 : ∀ w ∈ wsX50, w ∈ lw_tbl := fun w h => (goodIn_r wsX50 [123] (by decide +kernel) (by decide +kernel) w h).1
set_option maxRecDepth 100000 in
theorem inX6 : ∀ w ∈ wsX60, w ∈ lw_tbl := fun w h => (goodIn_r wsX60 [249, 251] (by decide +kernel) (by decide +kernel) w h).1
set_option maxRecDepth 100000 in
theorem inX7 : ∀ w ∈ wsX70, w ∈ lw_tbl := fun w h => (goodIn_r wsX70 [53, 55] (by decide +kernel) (by decide +kernel) w h).1
set_option maxRecDepth 100000 in
theorem inX8 : ∀ w ∈ wsX80, w ∈ lw_tbl := fun w h => (goodIn_r wsX80 [260, 262, 264, 266, 268, 270] (by decide +kernel) (by decide +kernel) w h).1
set_option maxRecDepth 100000 in
theorem inX9 : ∀ w ∈ wsX90, w ∈ lw_tbl := fun w h => (goodIn_r wsX90 [] (by decide +kernel) (by decide +kernel) w h).1
