/-! the law decodes, piece by piece -/
set_option maxRecDepth 100000 in
theorem qdl_900 : q_dok code ((qc_340.drop 900).take 30) = true := by decide +kernel
set_option maxRecDepth 100000 in
theorem qdl_930 : q_dok code ((qc_340.drop 930).take 30) = true := by decide +kernel
set_option maxRecDepth 100000 in
theorem qdl_960 : q_dok code ((qc_340.drop 960).take 30) = true := by decide +kernel
set_option maxRecDepth 100000 in
theorem qdl_990 : q_dok code ((qc_340.drop 990).take 30) = true := by decide +kernel
set_option maxRecDepth 100000 in
theorem qdl_1020 : q_dok code ((qc_340.drop 1020).take 30) = true := by decide +kernel
set_option maxRecDepth 100000 in
theorem qdl_1050 : q_dok code ((qc_340.drop 1050).take 30) = true := by decide +kernel
set_option maxRecDepth 100000 in
theorem qdl_1080 : q_dok code ((qc_340.drop 1080).take 30) = true := by decide +kernel
set_option maxRecDepth 100000 in
theorem qdl_1110 : q_dok code ((qc_340.drop 1110).take 30) = true := by decide +kernel
set_option maxRecDepth 100000 in
theorem qdl_1140 : q_dok code ((qc_340.drop 1140).take 30) = true := by decide +kernel
set_option maxRecDepth 100000 in
theorem qdl_1170 : q_dok code ((qc_340.drop 1170).take 30) = true := by decide +kernel
