def N0_0 : ChT := ((fun _ => 0))
def N0_1 : LdT := (0, 0, 0, 10, (fun _ => 0), (fun _ => 0), (fun _ => 0), (fillV 12 9 (fun _ => 0)), (fillV 3 1 (fun _ => 0)), (fun _ => 0), 0)
def N0_2 : ShT := ((fun _ _ => 0), (fillV 8 (-1) (fun _ => 0)), (fun _ => 0))
def N0_3 : TpT := ((fun _ => 0), 0, 0, 0, 0, 0)
def N0_4 : TrT := ((fun _ => 0), (fun _ => 0), 0, 0)
def N0_5 : WyT := ((fun _ => 0), (fun _ => 0), (fun _ => 0), (fun _ => 0), (fun _ => 0), (fun _ => 0), (fun _ => 0), (fun _ => 0), 0, (fun _ => 0), 0, 0, 0, (-1))
def N0_6 : TwT := ((fun _ => 0), 0, 0, 0)
abbrev N0_7 : MdT := M0
