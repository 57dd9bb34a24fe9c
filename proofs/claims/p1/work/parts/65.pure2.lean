set_option maxHeartbeats 2000000 in
set_option maxRecDepth 100000 in
theorem pe_15  : ∃ ox om, fX6_wipe N0_6 N0_3 = some ox ∧ fX7_wipe N0_7 = some om ∧ ox.1 = om.1 :=
  chB_ok (f := Prod.fst) (g := Prod.fst) (by decide +kernel)
set_option maxHeartbeats 2000000 in
set_option maxRecDepth 100000 in
theorem pe_16  : ∃ ox om, fX6_land 1000 N0_6 N0_0 N0_1 N0_1 N0_3 = some ox ∧ fX7_land 1000 N0_7 N0_7 = some om ∧ ox.1 = om.1 :=
  chB_ok (f := Prod.fst) (g := Prod.fst) (by decide +kernel)
set_option maxHeartbeats 2000000 in
set_option maxRecDepth 100000 in
theorem pe_22  : ∃ ox om, fX6_free 1000 N0_6 N0_0 N0_1 N0_1 N0_4 N0_5 = some ox ∧ fX7_free 1000 N0_7 = some om ∧ ox.1 = om.1 :=
  chB_ok (f := Prod.fst) (g := Prod.fst) (by decide +kernel)
set_option maxHeartbeats 2000000 in
set_option maxRecDepth 100000 in
theorem pe_25  : ∃ ox om, fX6_best 1000 N0_6 N0_0 N0_1 N0_1 N0_4 N0_5 = some ox ∧ fX7_best 1000 N0_7 N0_7 = some om ∧ ox.1 = om.1 :=
  chB_ok (f := Prod.fst) (g := Prod.fst) (by decide +kernel)
set_option maxHeartbeats 2000000 in
set_option maxRecDepth 100000 in
theorem pe_27  : ∃ ox om, fX6_first 1000 N0_6 N0_0 N0_1 N0_1 N0_4 N0_5 = some ox ∧ fX7_firstNt 1000 N0_7 N0_7 = some om ∧ ox.1 = om :=
  chB_ok (f := Prod.fst) (g := (fun (o : Int32) => o)) (by decide +kernel)
set_option maxHeartbeats 2000000 in
set_option maxRecDepth 100000 in
theorem pe_28  : ∃ ox om, fX6_greedy 1000 N0_6 N0_0 N0_1 N0_1 N0_1 N0_4 N0_5 = some ox ∧ fX7_greedyNc_ct 1000 N0_7 N0_7 N0_7 = some om ∧ ox.1 = om.1 :=
  chB_ok (f := Prod.fst) (g := Prod.fst) (by decide +kernel)
set_option maxHeartbeats 2000000 in
set_option maxRecDepth 100000 in
theorem pe_29  : ∃ ox om, fX6_gap 1000 N0_6 N0_0 N0_1 N0_1 N0_1 N0_4 N0_5 = some ox ∧ fX7_gapNc_ct_t 1000 N0_7 N0_7 N0_7 N0_7 = some om ∧ ox.1 = om.1 :=
  chB_ok (f := Prod.fst) (g := Prod.fst) (by decide +kernel)
set_option maxHeartbeats 2000000 in
set_option maxRecDepth 100000 in
theorem pe_31  : ∃ ox om, fX6_never 1000 N0_6 N0_0 N0_1 N0_1 N0_4 N0_5 = some ox ∧ fX7_never 1000 N0_7 N0_7 = some om ∧ ox.1 = om.1 :=
  chB_ok (f := Prod.fst) (g := Prod.fst) (by decide +kernel)
set_option maxHeartbeats 2000000 in
set_option maxRecDepth 100000 in
theorem pe_38  : ∃ ox om, fX6_hangs 1000 N0_6 N0_1 N0_4 N0_5 = some ox ∧ fX7_hangs 1000 N0_7 = some om ∧ ox.1 = om.1 :=
  chB_ok (f := Prod.fst) (g := Prod.fst) (by decide +kernel)
set_option maxHeartbeats 2000000 in
set_option maxRecDepth 100000 in
theorem pe_43  : ∃ ox om, fX6_image N0_6 N0_1 N0_1 = some ox ∧ fX7_image 1000 N0_7 N0_7 = some om ∧ ox.1 = om.1 :=
  chB_ok (f := Prod.fst) (g := Prod.fst) (by decide +kernel)
set_option maxHeartbeats 2000000 in
set_option maxRecDepth 100000 in
theorem pe_44  : ∃ ox om, fX6_back 1000 N0_6 N0_1 N0_2 N0_1 = some ox ∧ fX7_backNk 1000 N0_7 N0_7 = some om ∧ ox.1 = om.1 :=
  chB_ok (f := Prod.fst) (g := Prod.fst) (by decide +kernel)
