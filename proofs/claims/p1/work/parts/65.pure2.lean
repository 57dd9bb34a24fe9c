set_option maxHeartbeats 2000000 in
set_option maxRecDepth 100000 in
theorem pe_15  : ∃ ox om, fX6_wipe N0_6 N0_3 = some ox ∧ fX7_wipe N0_7 = some om ∧ ox.1 = om.1 :=
  chB_ok (f := fun o => o.1) (g := fun o => o.1) (by decide +kernel)
set_option maxHeartbeats 2000000 in
set_option maxRecDepth 100000 in
theorem pe_16  : ∃ ox om, fX6_land 60 N0_6 N0_0 N0_1 N0_1 N0_3 = some ox ∧ fX7_land 60 N0_7 N0_7 = some om ∧ ox.1 = om.1 :=
  chB_ok (f := fun o => o.1) (g := fun o => o.1) (by decide +kernel)
set_option maxHeartbeats 2000000 in
set_option maxRecDepth 100000 in
theorem pe_22  : ∃ ox om, fX6_free 60 N0_6 N0_0 N0_1 N0_1 N0_4 N0_5 = some ox ∧ fX7_free 60 N0_7 = some om ∧ ox.1 = om.1 :=
  chB_ok (f := fun o => o.1) (g := fun o => o.1) (by decide +kernel)
set_option maxHeartbeats 2000000 in
set_option maxRecDepth 100000 in
theorem pe_25  : ∃ ox om, fX6_best 60 N0_6 N0_0 N0_1 N0_1 N0_4 N0_5 = some ox ∧ fX7_best 60 N0_7 N0_7 = some om ∧ ox.1 = om.1 :=
  chB_ok (f := fun o => o.1) (g := fun o => o.1) (by decide +kernel)
set_option maxHeartbeats 2000000 in
set_option maxRecDepth 100000 in
theorem pe_27  : ∃ ox om, fX6_first 60 N0_6 N0_0 N0_1 N0_1 N0_4 N0_5 = some ox ∧ fX7_firstNt 60 N0_7 N0_7 = some om ∧ ox.1 = om :=
  chB_ok (f := fun o => o.1) (g := fun o => o) (by decide +kernel)
set_option maxHeartbeats 2000000 in
set_option maxRecDepth 100000 in
theorem pe_28  : ∃ ox om, fX6_greedy 60 N0_6 N0_0 N0_1 N0_1 N0_1 N0_4 N0_5 = some ox ∧ fX7_greedyNc_ct 60 N0_7 N0_7 N0_7 = some om ∧ ox.1 = om.1 :=
  chB_ok (f := fun o => o.1) (g := fun o => o.1) (by decide +kernel)
set_option maxHeartbeats 2000000 in
set_option maxRecDepth 100000 in
theorem pe_29  : ∃ ox om, fX6_gap 60 N0_6 N0_0 N0_1 N0_1 N0_1 N0_4 N0_5 = some ox ∧ fX7_gapNc_ct_t 60 N0_7 N0_7 N0_7 N0_7 = some om ∧ ox.1 = om.1 :=
  chB_ok (f := fun o => o.1) (g := fun o => o.1) (by decide +kernel)
set_option maxHeartbeats 2000000 in
set_option maxRecDepth 100000 in
theorem pe_31  : ∃ ox om, fX6_never 60 N0_6 N0_0 N0_1 N0_1 N0_4 N0_5 = some ox ∧ fX7_never 60 N0_7 N0_7 = some om ∧ ox.1 = om.1 :=
  chB_ok (f := fun o => o.1) (g := fun o => o.1) (by decide +kernel)
set_option maxHeartbeats 2000000 in
set_option maxRecDepth 100000 in
theorem pe_38  : ∃ ox om, fX6_hangs 60 N0_6 N0_1 N0_4 N0_5 = some ox ∧ fX7_hangs 60 N0_7 = some om ∧ ox.1 = om.1 :=
  chB_ok (f := fun o => o.1) (g := fun o => o.1) (by decide +kernel)
set_option maxHeartbeats 2000000 in
set_option maxRecDepth 100000 in
theorem pe_43  : ∃ ox om, fX6_image N0_6 N0_1 N0_1 = some ox ∧ fX7_image 60 N0_7 N0_7 = some om ∧ ox.1 = om.1 :=
  chB_ok (f := fun o => o.1) (g := fun o => o.1) (by decide +kernel)
set_option maxHeartbeats 2000000 in
set_option maxRecDepth 100000 in
theorem pe_44  : ∃ ox om, fX6_back 60 N0_6 N0_1 N0_2 N0_1 = some ox ∧ fX7_backNk 60 N0_7 N0_7 = some om ∧ ox.1 = om.1 :=
  chB_ok (f := fun o => o.1) (g := fun o => o.1) (by decide +kernel)
