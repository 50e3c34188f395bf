section XTw2
set_option maxRecDepth 16384 in
theorem rf_oth_11 : tables_1_11.all (fun c => tr_kind rf_fs c || c.before start1.args0 rf_s) = true := by decide +kernel
set_option maxRecDepth 16384 in
theorem rf_oth_12 : tables_1_12.all (fun c => tr_kind rf_fs c || c.before start1.args0 rf_s) = true := by decide +kernel
set_option maxRecDepth 16384 in
theorem rf_oth_13 : tables_1_13.all (fun c => tr_kind rf_fs c || c.before start1.args0 rf_s) = true := by decide +kernel
set_option maxRecDepth 16384 in
theorem rf_oth_14 : tables_1_14.all (fun c => tr_kind rf_fs c || c.before start1.args0 rf_s) = true := by decide +kernel
set_option maxRecDepth 16384 in
theorem rf_oth_15 : tables_1_15.all (fun c => tr_kind rf_fs c || c.before start1.args0 rf_s) = true := by decide +kernel
end XTw2
