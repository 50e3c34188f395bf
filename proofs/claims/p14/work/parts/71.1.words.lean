section XTw0
set_option maxRecDepth 16384 in
theorem rf_oth_1 : tables_1_1.all (fun c => tr_kind rf_fs c || c.before start1.args0 rf_s) = true := by decide +kernel
set_option maxRecDepth 16384 in
theorem rf_oth_2 : tables_1_2.all (fun c => tr_kind rf_fs c || c.before start1.args0 rf_s) = true := by decide +kernel
set_option maxRecDepth 16384 in
theorem rf_oth_3 : tables_1_3.all (fun c => tr_kind rf_fs c || c.before start1.args0 rf_s) = true := by decide +kernel
set_option maxRecDepth 16384 in
theorem rf_oth_4 : tables_1_4.all (fun c => tr_kind rf_fs c || c.before start1.args0 rf_s) = true := by decide +kernel
set_option maxRecDepth 16384 in
theorem rf_oth_5 : tables_1_5.all (fun c => tr_kind rf_fs c || c.before start1.args0 rf_s) = true := by decide +kernel
end XTw0
