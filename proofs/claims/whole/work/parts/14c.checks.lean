def zlawR : zMTr := zMT_9.getD 13 (⟨"", "", ""⟩, ⟨#[]⟩, 0, none, 0, true, 0, 0, 0, [])
def zlawD (lo n : Nat) : Bool := ((zlawR.2.2.2.2.2.2.2.2.2.drop lo).take n).all (zokD zlawR.2.1 zlawR.2.2.2.2.1 zlawR.2.2.2.2.2.2.1 zlawR.2.2.2.1)
set_option maxRecDepth 100000 in
set_option maxHeartbeats 4000000 in
theorem zlawC : zchain zlawR.2.2.2.2.2.2.2.2.2 = true := by decide +kernel
set_option maxRecDepth 100000 in
set_option maxHeartbeats 4000000 in
theorem zlawD_0 : zlawD 0 50 = true := by decide +kernel
set_option maxRecDepth 100000 in
set_option maxHeartbeats 4000000 in
theorem zlawD_1 : zlawD 50 50 = true := by decide +kernel
set_option maxRecDepth 100000 in
set_option maxHeartbeats 4000000 in
theorem zlawD_2 : zlawD 100 50 = true := by decide +kernel
set_option maxRecDepth 100000 in
set_option maxHeartbeats 4000000 in
theorem zlawD_3 : zlawD 150 50 = true := by decide +kernel
set_option maxRecDepth 100000 in
set_option maxHeartbeats 4000000 in
theorem zlawD_4 : zlawD 200 50 = true := by decide +kernel
set_option maxRecDepth 100000 in
set_option maxHeartbeats 4000000 in
theorem zlawD_5 : zlawD 250 50 = true := by decide +kernel
set_option maxRecDepth 100000 in
set_option maxHeartbeats 4000000 in
theorem zlawD_6 : zlawD 300 50 = true := by decide +kernel
set_option maxRecDepth 100000 in
set_option maxHeartbeats 4000000 in
theorem zlawD_7 : zlawD 350 50 = true := by decide +kernel
set_option maxRecDepth 100000 in
set_option maxHeartbeats 4000000 in
theorem zlawD_8 : zlawD 400 50 = true := by decide +kernel
set_option maxRecDepth 100000 in
set_option maxHeartbeats 4000000 in
theorem zlawD_9 : zlawD 450 50 = true := by decide +kernel
set_option maxRecDepth 100000 in
set_option maxHeartbeats 4000000 in
theorem zlawD_10 : zlawD 500 50 = true := by decide +kernel
set_option maxRecDepth 100000 in
set_option maxHeartbeats 4000000 in
theorem zlawD_11 : zlawD 550 50 = true := by decide +kernel
set_option maxRecDepth 100000 in
set_option maxHeartbeats 4000000 in
theorem zlawD_12 : zlawD 600 50 = true := by decide +kernel
set_option maxRecDepth 100000 in
set_option maxHeartbeats 4000000 in
theorem zlawD_13 : zlawD 650 50 = true := by decide +kernel
set_option maxRecDepth 100000 in
set_option maxHeartbeats 4000000 in
theorem zlawD_14 : zlawD 700 50 = true := by decide +kernel
set_option maxRecDepth 100000 in
set_option maxHeartbeats 4000000 in
theorem zlawD_15 : zlawD 750 50 = true := by decide +kernel
set_option maxRecDepth 100000 in
set_option maxHeartbeats 4000000 in
theorem zlawD_16 : zlawD 800 50 = true := by decide +kernel
set_option maxRecDepth 100000 in
set_option maxHeartbeats 4000000 in
theorem zlawD_17 : zlawD 850 50 = true := by decide +kernel
set_option maxRecDepth 100000 in
set_option maxHeartbeats 4000000 in
theorem zlawD_18 : zlawD 900 50 = true := by decide +kernel
set_option maxRecDepth 100000 in
set_option maxHeartbeats 4000000 in
theorem zlawD_19 : zlawD 950 50 = true := by decide +kernel
set_option maxRecDepth 100000 in
set_option maxHeartbeats 4000000 in
theorem zlawD_20 : zlawD 1000 50 = true := by decide +kernel
