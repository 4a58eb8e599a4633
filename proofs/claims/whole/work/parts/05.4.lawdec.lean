/-! the law decodes, piece by piece -/
set_option maxRecDepth 100000 in
theorem qdl_1200 : q_dok code ((qc_340.drop 1200).take 30) = true := by decide +kernel
set_option maxRecDepth 100000 in
theorem qdl_1230 : q_dok code ((qc_340.drop 1230).take 30) = true := by decide +kernel
set_option maxRecDepth 100000 in
theorem qdl_1260 : q_dok code ((qc_340.drop 1260).take 30) = true := by decide +kernel
set_option maxRecDepth 100000 in
theorem qdl_1290 : q_dok code ((qc_340.drop 1290).take 30) = true := by decide +kernel
set_option maxRecDepth 100000 in
theorem qdl_1320 : q_dok code ((qc_340.drop 1320).take 30) = true := by decide +kernel
set_option maxRecDepth 100000 in
theorem qdl_1350 : q_dok code ((qc_340.drop 1350).take 30) = true := by decide +kernel
set_option maxRecDepth 100000 in
theorem qdl_1380 : q_dok code ((qc_340.drop 1380).take 30) = true := by decide +kernel
set_option maxRecDepth 100000 in
theorem qdl_1410 : q_dok code ((qc_340.drop 1410).take 30) = true := by decide +kernel
set_option maxRecDepth 100000 in
theorem qdl_1440 : q_dok code ((qc_340.drop 1440).take 30) = true := by decide +kernel
