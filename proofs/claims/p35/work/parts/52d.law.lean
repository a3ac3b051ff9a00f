/-! a head -/
set_option maxRecDepth 100000 in
theorem qha3 : qlc yT1 qSgs qP 20000 qAl [1080] qhs qh3 = true := by decide +kernel
set_option maxRecDepth 100000 in
theorem qhb3 : (List.range 5).all (qlx yT1 qSgs qP 20000 qAl qh3) = true := by decide +kernel
