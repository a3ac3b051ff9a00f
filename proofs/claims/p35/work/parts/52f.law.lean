/-! a head -/
set_option maxRecDepth 100000 in
theorem qha5 : qlc yT1 qSgs qP 20000 qAl [1080] qhs qh5 = true := by decide +kernel
set_option maxRecDepth 100000 in
theorem qhb5 : (List.range 5).all (qlx yT1 qSgs qP 20000 qAl qh5) = true := by decide +kernel
