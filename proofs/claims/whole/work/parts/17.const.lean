set_option maxRecDepth 100000 in
theorem kt_J6_265 : Cond.constant RJ6 265 (1431655765) ∈ lw_tbl := List.mem_of_getElem? (i := 593) rfl
set_option maxRecDepth 100000 in
theorem kt_J6_266 : Cond.constant RJ6 266 (858993459) ∈ lw_tbl := List.mem_of_getElem? (i := 594) rfl
set_option maxRecDepth 100000 in
theorem kt_J6_267 : Cond.constant RJ6 267 (252645135) ∈ lw_tbl := List.mem_of_getElem? (i := 595) rfl
set_option maxRecDepth 100000 in
theorem kt_X8_55 : Cond.constant RX8 55 (1000000) ∈ lw_tbl := List.mem_of_getElem? (i := 855) rfl
set_option maxRecDepth 100000 in
theorem kt_J2_227 : Cond.constant RJ2 227 (65536) ∈ lw_tbl := List.mem_of_getElem? (i := 936) rfl
set_option maxRecDepth 100000 in
theorem kt_J11_110 : Cond.constant RJ11 110 (55232) ∈ lw_tbl := List.mem_of_getElem? (i := 961) rfl
set_option maxRecDepth 100000 in
theorem kt_J11_76 : Cond.constant RJ11 76 (56320) ∈ lw_tbl := List.mem_of_getElem? (i := 965) rfl
set_option maxRecDepth 100000 in
theorem kt_X10_378 : Cond.constantLong RX10 378 (2) ∈ lw_tbl := List.mem_of_getElem? (i := 1253) rfl
set_option maxRecDepth 100000 in
theorem kt_X10_308 : Cond.constant RX10 308 (1000000) ∈ lw_tbl := List.mem_of_getElem? (i := 1279) rfl
set_option maxRecDepth 100000 in
theorem kt_X9_81 : Cond.constant RX9 81 (1103515245) ∈ lw_tbl := List.mem_of_getElem? (i := 1376) rfl
set_option maxRecDepth 100000 in
theorem kt_X11_136 : Cond.constant RX11 136 (100000) ∈ lw_tbl := List.mem_of_getElem? (i := 1634) rfl
set_option maxRecDepth 100000 in
theorem kt_X11_376 : Cond.constant RX11 376 (1000000) ∈ lw_tbl := List.mem_of_getElem? (i := 1899) rfl
set_option maxRecDepth 100000 in
theorem kt_X11_391 : Cond.constant RX11 391 (1103515245) ∈ lw_tbl := List.mem_of_getElem? (i := 1958) rfl
