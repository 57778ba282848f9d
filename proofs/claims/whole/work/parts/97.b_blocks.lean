set_option maxRecDepth 1000000 in
theorem bk_0_1024 : (okW 0 1020 1024 && okW 0 1016 1020 && okW 0 1012 1016) = true := by decide +kernel
set_option maxRecDepth 1000000 in
theorem bk_0_1012 : (okW 0 1008 1012 && okW 0 1004 1008 && okW 0 1000 1004) = true := by decide +kernel
set_option maxRecDepth 1000000 in
theorem bk_0_1000 : (okW 0 996 1000 && okW 0 992 996 && okW 0 984 992) = true := by decide +kernel
set_option maxRecDepth 1000000 in
theorem bk_0_984 : (okW 0 976 984 && okW 0 968 976 && okW 0 960 968) = true := by decide +kernel
set_option maxRecDepth 1000000 in
theorem bk_0_960 : (okW 0 952 960 && okW 0 936 952 && okW 0 920 936) = true := by decide +kernel
set_option maxRecDepth 1000000 in
theorem bk_0_920 : (okW 0 904 920 && okW 0 872 904 && okW 0 840 872) = true := by decide +kernel
set_option maxRecDepth 1000000 in
theorem bk_0_840 : (okW 0 776 840 && okW 0 712 776 && okW 0 584 712) = true := by decide +kernel
set_option maxRecDepth 1000000 in
theorem bk_0_584 : (okW 0 456 584 && okW 0 256 456 && okW 0 1 256) = true := by decide +kernel
set_option maxRecDepth 1000000 in
theorem bk_1_1024 : (okW 1 1020 1024 && okW 1 1016 1020 && okW 1 1012 1016) = true := by decide +kernel
set_option maxRecDepth 1000000 in
theorem bk_1_1012 : (okW 1 1008 1012 && okW 1 1004 1008 && okW 1 1000 1004) = true := by decide +kernel
set_option maxRecDepth 1000000 in
theorem bk_1_1000 : (okW 1 996 1000 && okW 1 992 996 && okW 1 984 992) = true := by decide +kernel
set_option maxRecDepth 1000000 in
theorem bk_1_984 : (okW 1 976 984 && okW 1 968 976 && okW 1 960 968) = true := by decide +kernel
set_option maxRecDepth 1000000 in
theorem bk_1_960 : (okW 1 952 960 && okW 1 936 952 && okW 1 920 936) = true := by decide +kernel
set_option maxRecDepth 1000000 in
theorem bk_1_920 : (okW 1 904 920 && okW 1 872 904 && okW 1 840 872) = true := by decide +kernel
set_option maxRecDepth 1000000 in
theorem bk_1_840 : (okW 1 776 840 && okW 1 712 776 && okW 1 584 712) = true := by decide +kernel
set_option maxRecDepth 1000000 in
theorem bk_1_584 : (okW 1 456 584 && okW 1 256 456 && okW 1 1 256) = true := by decide +kernel
