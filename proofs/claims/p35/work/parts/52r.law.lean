/-! a head, a piece -/
set_option maxRecDepth 100000 in
theorem qhg15_1012 : qlg yT1 qSgs qP 20000 qAl [1080] [1012, 1055, 1074, 1031] qhs qh15 1012 = true := by decide +kernel
