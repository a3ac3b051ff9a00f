/-! a head, a piece -/
set_option maxRecDepth 100000 in
theorem qhg15_18 : qlg yT1 qSgs qP 20000 qAl [1080] [1012, 1055, 1074, 1031] qhs qh15 18 = true := by decide +kernel
