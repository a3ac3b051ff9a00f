/-! a head -/
set_option maxRecDepth 100000 in
theorem qha9 : qlc yT1 qSgs qP 20000 qAl [1080] qhs qh9 = true := by decide +kernel
set_option maxRecDepth 100000 in
theorem qhb9 : (List.range 5).all (qlx yT1 qSgs qP 20000 qAl qh9) = true := by decide +kernel
