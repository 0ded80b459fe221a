set_option maxRecDepth 20000 in
theorem tb_ok_law_0 : ((tb_287.drop 0).take 60).all (chk1 287) = true := by decide +kernel
set_option maxRecDepth 20000 in
theorem tb_ok_law_1 : ((tb_287.drop 60).take 60).all (chk1 287) = true := by decide +kernel
set_option maxRecDepth 20000 in
theorem tb_ok_law_2 : ((tb_287.drop 120).take 60).all (chk1 287) = true := by decide +kernel
set_option maxRecDepth 20000 in
theorem tb_ok_law_3 : ((tb_287.drop 180).take 60).all (chk1 287) = true := by decide +kernel
set_option maxRecDepth 20000 in
theorem tb_ok_law_4 : ((tb_287.drop 240).take 60).all (chk1 287) = true := by decide +kernel
set_option maxRecDepth 20000 in
theorem tb_ok_law_5 : ((tb_287.drop 300).take 60).all (chk1 287) = true := by decide +kernel
set_option maxRecDepth 20000 in
theorem tb_ok_law_6 : ((tb_287.drop 360).take 60).all (chk1 287) = true := by decide +kernel
set_option maxRecDepth 20000 in
theorem tb_ok_law_7 : ((tb_287.drop 420).take 60).all (chk1 287) = true := by decide +kernel
set_option maxRecDepth 20000 in
theorem tb_ok_law_8 : ((tb_287.drop 480).take 60).all (chk1 287) = true := by decide +kernel
set_option maxRecDepth 20000 in
theorem tb_ok_law_9 : ((tb_287.drop 540).take 60).all (chk1 287) = true := by decide +kernel
set_option maxRecDepth 20000 in
theorem tb_ok_law_10 : ((tb_287.drop 600).take 60).all (chk1 287) = true := by decide +kernel
set_option maxRecDepth 20000 in
theorem tb_ok_law_11 : ((tb_287.drop 660).take 60).all (chk1 287) = true := by decide +kernel
set_option maxRecDepth 20000 in
theorem tb_ok_law_12 : ((tb_287.drop 720).take 60).all (chk1 287) = true := by decide +kernel
set_option maxRecDepth 20000 in
theorem tb_ok_law_13 : ((tb_287.drop 780).take 60).all (chk1 287) = true := by decide +kernel
set_option maxRecDepth 20000 in
theorem tb_ok_law_14 : ((tb_287.drop 840).take 60).all (chk1 287) = true := by decide +kernel
set_option maxRecDepth 20000 in
theorem tb_ok_law_15 : ((tb_287.drop 900).take 60).all (chk1 287) = true := by decide +kernel
set_option maxRecDepth 20000 in
theorem tb_ok_law_16 : ((tb_287.drop 960).take 60).all (chk1 287) = true := by decide +kernel
set_option maxRecDepth 20000 in
theorem tb_ok_law_17 : ((tb_287.drop 1020).take 60).all (chk1 287) = true := by decide +kernel
