theorem sJ6_bitCount_0f7a4 {p0 : Int32} : Sf (fJ6_bitCount_0f7a4 p0) (fun _ => True) := ⟨_, rfl, trivial⟩
