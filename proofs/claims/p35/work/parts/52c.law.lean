/-! a head -/
set_option maxRecDepth 100000 in
theorem qha2 : qlc yT1 qSgs qP 20000 qAl [1080] qhs qh2 = true := by decide +kernel
set_option maxRecDepth 100000 in
theorem qhb2 : (List.range 5).all (qlx yT1 qSgs qP 20000 qAl qh2) = true := by decide +kernel
