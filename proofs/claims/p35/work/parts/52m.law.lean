/-! a head -/
set_option maxRecDepth 100000 in
theorem qha12 : qlc yT1 qSgs qP 20000 qAl [1080] qhs qh12 = true := by decide +kernel
set_option maxRecDepth 100000 in
theorem qhb12 : (List.range 5).all (qlx yT1 qSgs qP 20000 qAl qh12) = true := by decide +kernel
