/-! a head -/
set_option maxRecDepth 100000 in
theorem qha6 : qlc yT1 qSgs qP 20000 qAl [1080] qhs qh6 = true := by decide +kernel
set_option maxRecDepth 100000 in
theorem qhb6 : (List.range 5).all (qlx yT1 qSgs qP 20000 qAl qh6) = true := by decide +kernel
