set_option maxRecDepth 100000 in
set_option maxHeartbeats 4000000 in
theorem zokM_0 : zMT_0.all zokM = true := by decide +kernel
set_option maxRecDepth 100000 in
set_option maxHeartbeats 4000000 in
theorem zokM_1 : zMT_1.all zokM = true := by decide +kernel
set_option maxRecDepth 100000 in
set_option maxHeartbeats 4000000 in
theorem zokM_2 : zMT_2.all zokM = true := by decide +kernel
set_option maxRecDepth 100000 in
set_option maxHeartbeats 4000000 in
theorem zokM_3 : zMT_3.all zokM = true := by decide +kernel
set_option maxRecDepth 100000 in
set_option maxHeartbeats 4000000 in
theorem zokM_4 : zMT_4.all zokM = true := by decide +kernel
