/-! each call on new objects answers alike -/
def N0_0 : ChT := ((fun _ => 0))
def N0_1 : LdT := (0, 0, 0, 10, (fun _ => 0), (fun _ => 0), (fun _ => 0), (fillV 12 9 (fun _ => 0)), (fillV 3 1 (fun _ => 0)), (fun _ => 0), 0)
def N0_2 : ShT := ((fun _ _ => 0), (fillV 8 (-1) (fun _ => 0)), (fun _ => 0))
def N0_3 : TpT := ((fun _ => 0), 0, 0, 0, 0, 0)
def N0_4 : TrT := ((fun _ => 0), (fun _ => 0), 0, 0)
def N0_5 : WyT := ((fun _ => 0), (fun _ => 0), (fun _ => 0), (fun _ => 0), (fun _ => 0), (fun _ => 0), (fun _ => 0), (fun _ => 0), 0, (fun _ => 0), 0, 0, 0, (-1))
def N0_6 : TwT := ((fun _ => 0), 0, 0, 0)
abbrev N0_7 : MdT := M0
def Pr {α β γ : Type} (a : Option α) (f : α → γ) (b : Option β) (g : β → γ) : Prop := ∃ ox om, a = some ox ∧ b = some om ∧ f ox = g om
theorem pe_0 (p1 : Int32) (p2 : Int32) (p3 : Int32) : ∃ ox om, fX6_row 60 N0_6 N0_2 p1 p2 p3 = some ox ∧ fX7_row 60 N0_7 p1 p2 p3 = some om ∧ ox.1 = om.1 := sorry
theorem pe_1 (p1 : Int32) (p2 : Int32) (p3 : Int64) : ∃ ox om, fX6_set N0_6 N0_2 p1 p2 p3 = some ox ∧ fX7_set N0_7 p1 p2 p3 = some om ∧ ox.1 = om.1 := sorry
theorem pe_2 (p1 : Int32) (p2 : Int32) (p3 : Int32) (p4 : Int32) (p5 : Int32) : ∃ ox om, fX6_copy N0_6 N0_2 p1 p2 p3 p4 p5 = some ox ∧ fX7_copy 60 N0_7 p1 p2 p3 p4 p5 = some om ∧ ox.1 = om.1 := sorry
theorem pe_3 (p1 : Int32) (p2 : Int32) : ∃ ox om, fX6_element N0_6 N0_2 p1 p2 = some ox ∧ fX7_element N0_7 p1 p2 = some om ∧ ox = om := sorry
theorem pe_4 (p1 : Int32) : ∃ ox om, fX6_holds N0_6 N0_2 p1 = some ox ∧ fX7_holds N0_7 p1 = some om ∧ ox = om := sorry
theorem pe_5 (p1 : Int32) (p2 : Int32) : ∃ ox om, fX6_show N0_6 N0_2 N0_1 p1 p2 = some ox ∧ fX7_show N0_7 p1 p2 = some om ∧ ox.1 = om.1 := sorry
theorem pe_6 (p1 : Int32) (p2 : Int32) : ∃ ox om, fX6_says 60 N0_6 N0_2 N0_1 p1 p2 = some ox ∧ fX7_says N0_7 p1 p2 = some om ∧ ox.1 = om.1 := sorry
theorem pe_7 (p1 : Int32) (p2 : Int32) (p3 : Int32) (p4 : Int32) (p5 : Int32) (p6 : Int32) : ∃ ox om, fX6_line N0_6 N0_1 p1 p2 p3 p4 p5 p6 = some ox ∧ fX7_line N0_7 p1 p2 p3 p4 p5 p6 = some om ∧ ox.1 = om.1 := sorry
theorem pe_8 (p1 : Int32) (p2 : Int32) (p3 : Int32) : ∃ ox om, fX6_goods N0_6 N0_1 p1 p2 p3 = some ox ∧ fX7_goods N0_7 p1 p2 p3 = some om ∧ ox.1 = om.1 := sorry
theorem pe_9 (p1 : Int32) (p2 : Int32) (p3 : Int32) (p4 : Int32) : ∃ ox om, fX6_work 60 N0_6 N0_1 p1 p2 p3 p4 = some ox ∧ fX7_work N0_7 p1 p2 p3 p4 = some om ∧ ox.1 = om.1 := sorry
theorem pe_10 (p1 : Int32) (p2 : Int32) : ∃ ox om, fX6_change N0_6 N0_1 p1 p2 = some ox ∧ fX7_change N0_7 p1 p2 = some om ∧ ox.1 = om.1 := sorry
theorem pe_11 (p1 : Int32) (p2 : Int32) : ∃ ox om, fX6_coin N0_6 N0_1 p1 p2 = some ox ∧ fX7_coin N0_7 p1 p2 = some om ∧ ox.1 = om.1 := sorry
theorem pe_12 (p1 : Int32) : ∃ ox om, fX6_years N0_6 N0_1 p1 = some ox ∧ fX7_years N0_7 p1 = some om ∧ ox.1 = om.1 := sorry
theorem pe_13 (p1 : Int32) (p2 : Int32) : ∃ ox om, fX6_washed N0_6 N0_1 p1 p2 = some ox ∧ fX7_washed N0_7 p1 p2 = some om ∧ ox.1 = om.1 := sorry
theorem pe_14 (p1 : Int32) (p2 : Int32) : ∃ ox om, fX6_feed 60 N0_6 N0_3 p1 p2 = some ox ∧ fX7_feed 60 N0_7 p1 p2 = some om ∧ ox.1 = om.1 := sorry
theorem pe_15  : ∃ ox om, fX6_wipe N0_6 N0_3 = some ox ∧ fX7_wipe N0_7 = some om ∧ ox.1 = om.1 := sorry
theorem pe_16  : ∃ ox om, fX6_land 60 N0_6 N0_0 N0_1 N0_1 N0_3 = some ox ∧ fX7_land 60 N0_7 N0_7 = some om ∧ ox.1 = om.1 := sorry
theorem pe_17 (p1 : Int32) (p2 : Int32) : ∃ ox om, fX6_lineOf N0_6 N0_1 p1 p2 = some ox ∧ fX7_lineOf N0_7 p1 p2 = some om ∧ ox.1 = om.1 := sorry
theorem pe_18 (p1 : Int32) (p2 : Int32) : ∃ ox om, fX6_goodsOf N0_6 N0_1 p1 p2 = some ox ∧ fX7_goodsOf N0_7 p1 p2 = some om ∧ ox.1 = om.1 := sorry
theorem pe_19 (p1 : Int32) (p2 : Int32) : ∃ ox om, fX6_workOf N0_6 N0_1 p1 p2 = some ox ∧ fX7_workOf N0_7 p1 p2 = some om ∧ ox.1 = om.1 := sorry
theorem pe_20 (p1 : Int32) (p2 : Int32) : ∃ ox om, fX6_cheapest 60 N0_6 N0_1 N0_4 N0_5 p1 p2 = some ox ∧ fX7_cheapest 60 N0_7 p1 p2 = some om ∧ ox.1 = om.1 := sorry
theorem pe_21 (p1 : Int32) (p2 : Int32) : ∃ ox om, fX6_way 60 N0_6 N0_1 N0_4 N0_5 p1 p2 = some ox ∧ fX7_way 60 N0_7 p1 p2 = some om ∧ ox.1 = om.1 := sorry
theorem pe_22  : ∃ ox om, fX6_free 60 N0_6 N0_0 N0_1 N0_1 N0_4 N0_5 = some ox ∧ fX7_free 60 N0_7 = some om ∧ ox.1 = om.1 := sorry
theorem pe_23 (p1 : Int32) : ∃ ox om, fX6_turn 60 N0_6 N0_1 N0_4 N0_5 p1 = some ox ∧ fX7_turn 60 N0_7 p1 = some om ∧ ox.1 = om.1 := sorry
theorem pe_24 (p1 : Int32) : ∃ ox om, fX6_total 60 N0_6 N0_0 N0_1 N0_1 N0_4 N0_5 p1 = some ox ∧ fX7_total 60 N0_7 N0_7 p1 = some om ∧ ox.1 = om.1 := sorry
theorem pe_25  : ∃ ox om, fX6_best 60 N0_6 N0_0 N0_1 N0_1 N0_4 N0_5 = some ox ∧ fX7_best 60 N0_7 N0_7 = some om ∧ ox.1 = om.1 := sorry
theorem pe_26 (p1 : Int32) : ∃ ox om, fX6_worth 60 N0_6 N0_0 N0_1 N0_1 N0_4 N0_5 p1 = some ox ∧ fX7_worth 60 N0_7 N0_7 p1 = some om ∧ ox.1 = om.1 := sorry
theorem pe_27  : ∃ ox om, fX6_first 60 N0_6 N0_0 N0_1 N0_1 N0_4 N0_5 = some ox ∧ fX7_first 60 N0_7 N0_7 = some om ∧ ox.1 = om.1 := sorry
theorem pe_28  : ∃ ox om, fX6_greedy 60 N0_6 N0_0 N0_1 N0_1 N0_1 N0_4 N0_5 = some ox ∧ fX7_greedy 60 N0_7 N0_7 N0_7 = some om ∧ ox.1 = om.1 := sorry
theorem pe_29  : ∃ ox om, fX6_gap 60 N0_6 N0_0 N0_1 N0_1 N0_1 N0_4 N0_5 = some ox ∧ fX7_gap 60 N0_7 N0_7 N0_7 N0_7 = some om ∧ ox.1 = om.1 := sorry
theorem pe_30 (p1 : Int32) : ∃ ox om, fX6_edge 60 N0_6 N0_0 N0_1 N0_1 N0_4 N0_5 p1 = some ox ∧ fX7_edge 60 N0_7 N0_7 p1 = some om ∧ ox.1 = om.1 := sorry
theorem pe_31  : ∃ ox om, fX6_never 60 N0_6 N0_0 N0_1 N0_1 N0_4 N0_5 = some ox ∧ fX7_never 60 N0_7 N0_7 = some om ∧ ox.1 = om.1 := sorry
theorem pe_32 (p1 : Int32) (p2 : Int32) : ∃ ox om, fX6_one 60 N0_6 N0_0 N0_1 N0_1 N0_4 N0_5 p1 p2 = some ox ∧ fX7_one 60 N0_7 N0_7 p1 p2 = some om ∧ ox.1 = om.1 := sorry
theorem pe_33 (p1 : Int32) : ∃ ox om, fX6_which 60 N0_6 N0_0 N0_1 N0_1 N0_4 N0_5 p1 = some ox ∧ fX7_which 60 N0_7 N0_7 p1 = some om ∧ ox.1 = om.1 := sorry
theorem pe_34 (p1 : Int32) : ∃ ox om, fX6_earns 60 N0_6 N0_1 N0_4 N0_5 p1 = some ox ∧ fX7_earns 60 N0_7 p1 = some om ∧ ox.1 = om.1 := sorry
theorem pe_35 (p1 : Int32) (p2 : Int32) : ∃ ox om, fX6_gains 60 N0_6 N0_0 N0_1 N0_1 N0_4 N0_5 p1 p2 = some ox ∧ fX7_gains 60 N0_7 N0_7 p1 p2 = some om ∧ ox.1 = om.1 := sorry
theorem pe_36 (p1 : Int32) : ∃ ox om, fX6_losers 60 N0_6 N0_0 N0_1 N0_1 N0_4 N0_5 p1 = some ox ∧ fX7_losers 60 N0_7 N0_7 p1 = some om ∧ ox.1 = om.1 := sorry
theorem pe_37 (p1 : Int32) (p2 : Int32) : ∃ ox om, fX6_port 60 N0_6 N0_1 N0_4 N0_5 p1 p2 = some ox ∧ fX7_port 60 N0_7 p1 p2 = some om ∧ ox.1 = om.1 := sorry
theorem pe_38  : ∃ ox om, fX6_hangs 60 N0_6 N0_1 N0_4 N0_5 = some ox ∧ fX7_hangs 60 N0_7 = some om ∧ ox.1 = om.1 := sorry
theorem pe_39 (p1 : Int32) (p2 : Int32) : ∃ ox om, fX6_plan 60 N0_6 N0_0 N0_1 N0_1 N0_2 N0_1 N0_4 N0_5 p1 p2 = some ox ∧ fX7_plan 60 N0_7 N0_7 p1 p2 = some om ∧ ox.1 = om.1 := sorry
theorem pe_40 (p1 : Int32) (p2 : Int32) : ∃ ox om, fX6_judge 60 N0_6 N0_0 N0_2 N0_1 p1 p2 = some ox ∧ fX7_judge 60 N0_7 p1 p2 = some om ∧ ox.1 = om.1 := sorry
theorem pe_41 (p1 : Int32) : ∃ ox om, fX6_year 60 N0_6 N0_0 N0_1 N0_1 N0_4 N0_5 p1 = some ox ∧ fX7_year 60 N0_7 p1 = some om ∧ ox.1 = om.1 := sorry
theorem pe_42 (p1 : Int32) : ∃ ox om, fX6_run 60 N0_6 N0_0 N0_1 N0_1 N0_4 N0_5 p1 = some ox ∧ fX7_run 60 N0_7 N0_7 p1 = some om ∧ ox.1 = om.1 := sorry
theorem pe_43  : ∃ ox om, fX6_image N0_6 N0_1 N0_1 = some ox ∧ fX7_image 60 N0_7 N0_7 = some om ∧ ox.1 = om.1 := sorry
theorem pe_44  : ∃ ox om, fX6_back 60 N0_6 N0_1 N0_2 N0_1 = some ox ∧ fX7_backNk 60 N0_7 N0_7 = some om ∧ ox.1 = om.1 := sorry
theorem pe_45 (p1 : Int32) : ∃ ox om, fX6_status 60 N0_6 N0_2 N0_1 N0_3 p1 = some ox ∧ fX7_status 60 N0_7 p1 = some om ∧ ox = om := sorry
