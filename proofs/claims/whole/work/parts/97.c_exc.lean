set_option maxRecDepth 1000000 in
theorem ex_1046809 : Nat.ble (tE 1024 1023 1 261702) 1042304 = true := by decide +kernel
set_option maxRecDepth 1000000 in
theorem ex_1035241 : Nat.ble (tE 1018 1017 1 258810) 1042304 = true := by decide +kernel
set_option maxRecDepth 1000000 in
theorem ex_1026481 : Nat.ble (tE 1014 1013 1 256620) 1042304 = true := by decide +kernel
set_option maxRecDepth 1000000 in
theorem ex_1028329 : Nat.ble (tE 1015 1014 1 257082) 1042304 = true := by decide +kernel
set_option maxRecDepth 1000000 in
theorem ex_1019209 : Nat.ble (tE 1010 1009 1 254802) 1042304 = true := by decide +kernel
set_option maxRecDepth 1000000 in
theorem ex_1008121 : Nat.ble (tE 1005 1004 1 252030) 1042304 = true := by decide +kernel
set_option maxRecDepth 1000000 in
theorem ex_1009969 : Nat.ble (tE 1005 1004 1 252492) 1042304 = true := by decide +kernel
set_option maxRecDepth 1000000 in
theorem ex_1014841 : Nat.ble (tE 1008 1007 1 253710) 1042304 = true := by decide +kernel
set_option maxRecDepth 1000000 in
theorem ex_1007161 : Nat.ble (tE 1004 1003 1 251790) 1042304 = true := by decide +kernel
set_option maxRecDepth 1000000 in
theorem ex_995569 : Nat.ble (tE 998 997 1 248892) 1042304 = true := by decide +kernel
set_option maxRecDepth 1000000 in
theorem ex_987529 : Nat.ble (tE 994 993 1 246882) 1042304 = true := by decide +kernel
set_option maxRecDepth 1000000 in
theorem ex_969049 : Nat.ble (tE 985 984 1 242262) 1042304 = true := by decide +kernel
set_option maxRecDepth 1000000 in
theorem ex_970369 : Nat.ble (tE 986 985 1 242592) 1042304 = true := by decide +kernel
set_option maxRecDepth 1000000 in
theorem ex_971569 : Nat.ble (tE 986 985 1 242892) 1042304 = true := by decide +kernel
set_option maxRecDepth 1000000 in
theorem ex_979969 : Nat.ble (tE 990 989 1 244992) 1042304 = true := by decide +kernel
