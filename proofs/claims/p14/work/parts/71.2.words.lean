section XTw1
set_option maxRecDepth 16384 in
theorem rf_oth_6 : tables_1_6.all (fun c => tr_kind rf_fs c || c.before start1.args0 rf_s) = true := by decide +kernel
set_option maxRecDepth 16384 in
theorem rf_oth_7 : tables_1_7.all (fun c => tr_kind rf_fs c || c.before start1.args0 rf_s) = true := by decide +kernel
set_option maxRecDepth 16384 in
theorem rf_oth_8 : tables_1_8.all (fun c => tr_kind rf_fs c || c.before start1.args0 rf_s) = true := by decide +kernel
set_option maxRecDepth 16384 in
theorem rf_oth_9 : tables_1_9.all (fun c => tr_kind rf_fs c || c.before start1.args0 rf_s) = true := by decide +kernel
set_option maxRecDepth 16384 in
theorem rf_oth_10 : tables_1_10.all (fun c => tr_kind rf_fs c || c.before start1.args0 rf_s) = true := by decide +kernel
end XTw1
