set_option maxRecDepth 100000 in
set_option maxHeartbeats 4000000 in
theorem zokM_5 : zMT_5.all zokM = true := by decide +kernel
set_option maxRecDepth 100000 in
set_option maxHeartbeats 4000000 in
theorem zokM_6 : zMT_6.all zokM = true := by decide +kernel
set_option maxRecDepth 100000 in
set_option maxHeartbeats 4000000 in
theorem zokM_7 : zMT_7.all zokM = true := by decide +kernel
set_option maxRecDepth 100000 in
set_option maxHeartbeats 4000000 in
theorem zokM_8 : zMT_8.all zokM = true := by decide +kernel
set_option maxRecDepth 100000 in
set_option maxHeartbeats 4000000 in
theorem zokM_9 : (zMT_9.take 13).all zokM = true := by decide +kernel
