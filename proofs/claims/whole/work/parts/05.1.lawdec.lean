/-! the law decodes, piece by piece -/
set_option maxRecDepth 100000 in
theorem qdl_300 : q_dok code ((qc_340.drop 300).take 30) = true := by decide +kernel
set_option maxRecDepth 100000 in
theorem qdl_330 : q_dok code ((qc_340.drop 330).take 30) = true := by decide +kernel
set_option maxRecDepth 100000 in
theorem qdl_360 : q_dok code ((qc_340.drop 360).take 30) = true := by decide +kernel
set_option maxRecDepth 100000 in
theorem qdl_390 : q_dok code ((qc_340.drop 390).take 30) = true := by decide +kernel
set_option maxRecDepth 100000 in
theorem qdl_420 : q_dok code ((qc_340.drop 420).take 30) = true := by decide +kernel
set_option maxRecDepth 100000 in
theorem qdl_450 : q_dok code ((qc_340.drop 450).take 30) = true := by decide +kernel
set_option maxRecDepth 100000 in
theorem qdl_480 : q_dok code ((qc_340.drop 480).take 30) = true := by decide +kernel
set_option maxRecDepth 100000 in
theorem qdl_510 : q_dok code ((qc_340.drop 510).take 30) = true := by decide +kernel
set_option maxRecDepth 100000 in
theorem qdl_540 : q_dok code ((qc_340.drop 540).take 30) = true := by decide +kernel
set_option maxRecDepth 100000 in
theorem qdl_570 : q_dok code ((qc_340.drop 570).take 30) = true := by decide +kernel
