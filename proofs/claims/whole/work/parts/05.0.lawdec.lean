/-! the law decodes, piece by piece -/
set_option maxRecDepth 100000 in
theorem qdl_0 : q_dok code ((qc_340.drop 0).take 30) = true := by decide +kernel
set_option maxRecDepth 100000 in
theorem qdl_30 : q_dok code ((qc_340.drop 30).take 30) = true := by decide +kernel
set_option maxRecDepth 100000 in
theorem qdl_60 : q_dok code ((qc_340.drop 60).take 30) = true := by decide +kernel
set_option maxRecDepth 100000 in
theorem qdl_90 : q_dok code ((qc_340.drop 90).take 30) = true := by decide +kernel
set_option maxRecDepth 100000 in
theorem qdl_120 : q_dok code ((qc_340.drop 120).take 30) = true := by decide +kernel
set_option maxRecDepth 100000 in
theorem qdl_150 : q_dok code ((qc_340.drop 150).take 30) = true := by decide +kernel
set_option maxRecDepth 100000 in
theorem qdl_180 : q_dok code ((qc_340.drop 180).take 30) = true := by decide +kernel
set_option maxRecDepth 100000 in
theorem qdl_210 : q_dok code ((qc_340.drop 210).take 30) = true := by decide +kernel
set_option maxRecDepth 100000 in
theorem qdl_240 : q_dok code ((qc_340.drop 240).take 30) = true := by decide +kernel
set_option maxRecDepth 100000 in
theorem qdl_270 : q_dok code ((qc_340.drop 270).take 30) = true := by decide +kernel
