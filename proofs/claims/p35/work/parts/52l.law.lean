/-! a head -/
set_option maxRecDepth 100000 in
theorem qha11 : qlc yT1 qSgs qP 20000 qAl [1080] qhs qh11 = true := by decide +kernel
set_option maxRecDepth 100000 in
theorem qhb11 : (List.range 5).all (qlx yT1 qSgs qP 20000 qAl qh11) = true := by decide +kernel
