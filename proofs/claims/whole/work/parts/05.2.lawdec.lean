/-! the law decodes, piece by piece -/
set_option maxRecDepth 100000 in
theorem qdl_600 : q_dok code ((qc_340.drop 600).take 30) = true := by decide +kernel
set_option maxRecDepth 100000 in
theorem qdl_630 : q_dok code ((qc_340.drop 630).take 30) = true := by decide +kernel
set_option maxRecDepth 100000 in
theorem qdl_660 : q_dok code ((qc_340.drop 660).take 30) = true := by decide +kernel
set_option maxRecDepth 100000 in
theorem qdl_690 : q_dok code ((qc_340.drop 690).take 30) = true := by decide +kernel
set_option maxRecDepth 100000 in
theorem qdl_720 : q_dok code ((qc_340.drop 720).take 30) = true := by decide +kernel
set_option maxRecDepth 100000 in
theorem qdl_750 : q_dok code ((qc_340.drop 750).take 30) = true := by decide +kernel
set_option maxRecDepth 100000 in
theorem qdl_780 : q_dok code ((qc_340.drop 780).take 30) = true := by decide +kernel
set_option maxRecDepth 100000 in
theorem qdl_810 : q_dok code ((qc_340.drop 810).take 30) = true := by decide +kernel
set_option maxRecDepth 100000 in
theorem qdl_840 : q_dok code ((qc_340.drop 840).take 30) = true := by decide +kernel
set_option maxRecDepth 100000 in
theorem qdl_870 : q_dok code ((qc_340.drop 870).take 30) = true := by decide +kernel
