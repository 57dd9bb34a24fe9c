section LW
variable {args : Array Value} {s : State} {A : Nat → Prop}
set_option maxRecDepth 100000 in
theorem sta_0 (hs : ∀ w ∈ flatC (Jvm.Cond.and given_1 narrow_1), w.before args s = true) (hts : ∀ w ∈ lw_tbl, w.before args s = true) (hA : ∀ a : Nat, a < s.heap.size → ¬ A a) : ∃ q : Nat × Nat, va_O "java/lang/String" q.1 A s s.heap ∧ va_OF "java/lang/String" "coder" "B" (.int 0) q.1 A s s.heap ∧ va_OF "java/lang/String" "value" "[B" (.ref q.2) q.1 A s s.heap ∧ va_T .byte q.2 4 (sByte [108, 105, 110, 101]) A s s.heap ∧ vk_R "TwoWidths$Tape" 35 "line" q.1 s := by
  obtain ⟨q, h0, h1, h2, h3, h4⟩ := sK_of (args := args) (s := s) (A := A) (t := (.string "TwoWidths$Tape" 35)) (bs := [108, 105, 110, 101]) (by decide) (hs _ (by decide +kernel)) (hs _ (by decide +kernel)) (hs _ (by decide +kernel)) (hs _ (by decide +kernel)) (fun j hj => match j, hj with | 0, _ => hs _ (by decide +kernel) | 1, _ => hs _ (by decide +kernel) | 2, _ => hs _ (by decide +kernel) | 3, _ => hs _ (by decide +kernel) | j + 4, hj => absurd hj (by show ¬ (j + 4 < 4); omega)) hA
  exact ⟨q, h1, h2, h3, h4, vk_R.of (hts _ (lw_t2 238 rfl)) h0⟩
set_option maxRecDepth 100000 in
theorem sta_1 (hs : ∀ w ∈ flatC (Jvm.Cond.and given_1 narrow_1), w.before args s = true) (hts : ∀ w ∈ lw_tbl, w.before args s = true) (hA : ∀ a : Nat, a < s.heap.size → ¬ A a) : ∃ q : Nat × Nat, va_O "java/lang/String" q.1 A s s.heap ∧ va_OF "java/lang/String" "coder" "B" (.int 0) q.1 A s s.heap ∧ va_OF "java/lang/String" "value" "[B" (.ref q.2) q.1 A s s.heap ∧ va_T .byte q.2 5 (sByte [119, 105, 100, 116, 104]) A s s.heap ∧ vk_R "TwoWidths$Tape" 87 "width" q.1 s := by
  obtain ⟨q, h0, h1, h2, h3, h4⟩ := sK_of (args := args) (s := s) (A := A) (t := (.string "TwoWidths$Tape" 87)) (bs := [119, 105, 100, 116, 104]) (by decide) (hs _ (by decide +kernel)) (hs _ (by decide +kernel)) (hs _ (by decide +kernel)) (hs _ (by decide +kernel)) (fun j hj => match j, hj with | 0, _ => hs _ (by decide +kernel) | 1, _ => hs _ (by decide +kernel) | 2, _ => hs _ (by decide +kernel) | 3, _ => hs _ (by decide +kernel) | 4, _ => hs _ (by decide +kernel) | j + 5, hj => absurd hj (by show ¬ (j + 5 < 5); omega)) hA
  exact ⟨q, h1, h2, h3, h4, vk_R.of (hts _ (lw_t3 64 rfl)) h0⟩
set_option maxRecDepth 100000 in
theorem sta_2 (hs : ∀ w ∈ flatC (Jvm.Cond.and given_1 narrow_1), w.before args s = true) (hts : ∀ w ∈ lw_tbl, w.before args s = true) (hA : ∀ a : Nat, a < s.heap.size → ¬ A a) : ∃ q : Nat × Nat, va_O "java/lang/String" q.1 A s s.heap ∧ va_OF "java/lang/String" "coder" "B" (.int 0) q.1 A s s.heap ∧ va_OF "java/lang/String" "value" "[B" (.ref q.2) q.1 A s s.heap ∧ va_T .byte q.2 5 (sByte [109, 105, 108, 101, 115]) A s s.heap ∧ vk_R "TwoWidths$Tape" 89 "miles" q.1 s := by
  obtain ⟨q, h0, h1, h2, h3, h4⟩ := sK_of (args := args) (s := s) (A := A) (t := (.string "TwoWidths$Tape" 89)) (bs := [109, 105, 108, 101, 115]) (by decide) (hs _ (by decide +kernel)) (hs _ (by decide +kernel)) (hs _ (by decide +kernel)) (hs _ (by decide +kernel)) (fun j hj => match j, hj with | 0, _ => hs _ (by decide +kernel) | 1, _ => hs _ (by decide +kernel) | 2, _ => hs _ (by decide +kernel) | 3, _ => hs _ (by decide +kernel) | 4, _ => hs _ (by decide +kernel) | j + 5, hj => absurd hj (by show ¬ (j + 5 < 5); omega)) hA
  exact ⟨q, h1, h2, h3, h4, vk_R.of (hts _ (lw_t3 65 rfl)) h0⟩
set_option maxRecDepth 100000 in
theorem sta_3 (hs : ∀ w ∈ flatC (Jvm.Cond.and given_1 narrow_1), w.before args s = true) (hts : ∀ w ∈ lw_tbl, w.before args s = true) (hA : ∀ a : Nat, a < s.heap.size → ¬ A a) : ∃ q : Nat × Nat, va_O "java/lang/String" q.1 A s s.heap ∧ va_OF "java/lang/String" "coder" "B" (.int 0) q.1 A s s.heap ∧ va_OF "java/lang/String" "value" "[B" (.ref q.2) q.1 A s s.heap ∧ va_T .byte q.2 5 (sByte [98, 101, 97, 114, 115]) A s s.heap ∧ vk_R "TwoWidths$Tape" 91 "bears" q.1 s := by
  obtain ⟨q, h0, h1, h2, h3, h4⟩ := sK_of (args := args) (s := s) (A := A) (t := (.string "TwoWidths$Tape" 91)) (bs := [98, 101, 97, 114, 115]) (by decide) (hs _ (by decide +kernel)) (hs _ (by decide +kernel)) (hs _ (by decide +kernel)) (hs _ (by decide +kernel)) (fun j hj => match j, hj with | 0, _ => hs _ (by decide +kernel) | 1, _ => hs _ (by decide +kernel) | 2, _ => hs _ (by decide +kernel) | 3, _ => hs _ (by decide +kernel) | 4, _ => hs _ (by decide +kernel) | j + 5, hj => absurd hj (by show ¬ (j + 5 < 5); omega)) hA
  exact ⟨q, h1, h2, h3, h4, vk_R.of (hts _ (lw_t3 66 rfl)) h0⟩
set_option maxRecDepth 100000 in
theorem st_4 (hs : ∀ w ∈ flatC (Jvm.Cond.and given_1 narrow_1), w.before args s = true) (hts : ∀ w ∈ lw_tbl, w.before args s = true) (hA : ∀ a : Nat, a < s.heap.size → ¬ A a) : ∃ q : Nat × Nat, va_O "java/lang/String" q.1 A s s.heap ∧ va_OF "java/lang/String" "coder" "B" (.int 0) q.1 A s s.heap ∧ va_OF "java/lang/String" "value" "[B" (.ref q.2) q.1 A s s.heap ∧ va_T .byte q.2 5 (sByte [111, 119, 110, 101, 114]) A s s.heap ∧ vk_R "TwoWidths$Tape" 97 "owner" q.1 s := by
  obtain ⟨q, h0, h1, h2, h3, h4⟩ := sK_of (args := args) (s := s) (A := A) (t := (.string "TwoWidths$Tape" 97)) (bs := [111, 119, 110, 101, 114]) (by decide) (hs _ (by decide +kernel)) (hs _ (by decide +kernel)) (hs _ (by decide +kernel)) (hs _ (by decide +kernel)) (fun j hj => match j, hj with | 0, _ => hs _ (by decide +kernel) | 1, _ => hs _ (by decide +kernel) | 2, _ => hs _ (by decide +kernel) | 3, _ => hs _ (by decide +kernel) | 4, _ => hs _ (by decide +kernel) | j + 5, hj => absurd hj (by show ¬ (j + 5 < 5); omega)) hA
  exact ⟨q, h1, h2, h3, h4, vk_R.of (hts _ (lw_t3 71 rfl)) h0⟩
set_option maxRecDepth 100000 in
theorem st_5 (hs : ∀ w ∈ flatC (Jvm.Cond.and given_1 narrow_1), w.before args s = true) (hts : ∀ w ∈ lw_tbl, w.before args s = true) (hA : ∀ a : Nat, a < s.heap.size → ¬ A a) : ∃ q : Nat × Nat, va_O "java/lang/String" q.1 A s s.heap ∧ va_OF "java/lang/String" "coder" "B" (.int 0) q.1 A s s.heap ∧ va_OF "java/lang/String" "value" "[B" (.ref q.2) q.1 A s s.heap ∧ va_T .byte q.2 5 (sByte [103, 111, 111, 100, 115]) A s s.heap ∧ vk_R "TwoWidths$Tape" 49 "goods" q.1 s := by
  obtain ⟨q, h0, h1, h2, h3, h4⟩ := sK_of (args := args) (s := s) (A := A) (t := (.string "TwoWidths$Tape" 49)) (bs := [103, 111, 111, 100, 115]) (by decide) (hs _ (by decide +kernel)) (hs _ (by decide +kernel)) (hs _ (by decide +kernel)) (hs _ (by decide +kernel)) (fun j hj => match j, hj with | 0, _ => hs _ (by decide +kernel) | 1, _ => hs _ (by decide +kernel) | 2, _ => hs _ (by decide +kernel) | 3, _ => hs _ (by decide +kernel) | 4, _ => hs _ (by decide +kernel) | j + 5, hj => absurd hj (by show ¬ (j + 5 < 5); omega)) hA
  exact ⟨q, h1, h2, h3, h4, vk_R.of (hts _ (lw_t3 73 rfl)) h0⟩
set_option maxRecDepth 100000 in
theorem st_6 (hs : ∀ w ∈ flatC (Jvm.Cond.and given_1 narrow_1), w.before args s = true) (hts : ∀ w ∈ lw_tbl, w.before args s = true) (hA : ∀ a : Nat, a < s.heap.size → ¬ A a) : ∃ q : Nat × Nat, va_O "java/lang/String" q.1 A s s.heap ∧ va_OF "java/lang/String" "coder" "B" (.int 0) q.1 A s s.heap ∧ va_OF "java/lang/String" "value" "[B" (.ref q.2) q.1 A s s.heap ∧ va_T .byte q.2 4 (sByte [119, 111, 114, 107]) A s s.heap ∧ vk_R "TwoWidths$Tape" 57 "work" q.1 s := by
  obtain ⟨q, h0, h1, h2, h3, h4⟩ := sK_of (args := args) (s := s) (A := A) (t := (.string "TwoWidths$Tape" 57)) (bs := [119, 111, 114, 107]) (by decide) (hs _ (by decide +kernel)) (hs _ (by decide +kernel)) (hs _ (by decide +kernel)) (hs _ (by decide +kernel)) (fun j hj => match j, hj with | 0, _ => hs _ (by decide +kernel) | 1, _ => hs _ (by decide +kernel) | 2, _ => hs _ (by decide +kernel) | 3, _ => hs _ (by decide +kernel) | j + 4, hj => absurd hj (by show ¬ (j + 4 < 4); omega)) hA
  exact ⟨q, h1, h2, h3, h4, vk_R.of (hts _ (lw_t3 79 rfl)) h0⟩
set_option maxRecDepth 100000 in
theorem st_7 (hs : ∀ w ∈ flatC (Jvm.Cond.and given_1 narrow_1), w.before args s = true) (hts : ∀ w ∈ lw_tbl, w.before args s = true) (hA : ∀ a : Nat, a < s.heap.size → ¬ A a) : ∃ q : Nat × Nat, va_O "java/lang/String" q.1 A s s.heap ∧ va_OF "java/lang/String" "coder" "B" (.int 0) q.1 A s s.heap ∧ va_OF "java/lang/String" "value" "[B" (.ref q.2) q.1 A s s.heap ∧ va_T .byte q.2 6 (sByte [99, 104, 97, 110, 103, 101]) A s s.heap ∧ vk_R "TwoWidths$Tape" 65 "change" q.1 s := by
  obtain ⟨q, h0, h1, h2, h3, h4⟩ := sK_of (args := args) (s := s) (A := A) (t := (.string "TwoWidths$Tape" 65)) (bs := [99, 104, 97, 110, 103, 101]) (by decide) (hs _ (by decide +kernel)) (hs _ (by decide +kernel)) (hs _ (by decide +kernel)) (hs _ (by decide +kernel)) (fun j hj => match j, hj with | 0, _ => hs _ (by decide +kernel) | 1, _ => hs _ (by decide +kernel) | 2, _ => hs _ (by decide +kernel) | 3, _ => hs _ (by decide +kernel) | 4, _ => hs _ (by decide +kernel) | 5, _ => hs _ (by decide +kernel) | j + 6, hj => absurd hj (by show ¬ (j + 6 < 6); omega)) hA
  exact ⟨q, h1, h2, h3, h4, vk_R.of (hts _ (lw_t3 88 rfl)) h0⟩
set_option maxRecDepth 100000 in
theorem st_8 (hs : ∀ w ∈ flatC (Jvm.Cond.and given_1 narrow_1), w.before args s = true) (hts : ∀ w ∈ lw_tbl, w.before args s = true) (hA : ∀ a : Nat, a < s.heap.size → ¬ A a) : ∃ q : Nat × Nat, va_O "java/lang/String" q.1 A s s.heap ∧ va_OF "java/lang/String" "coder" "B" (.int 0) q.1 A s s.heap ∧ va_OF "java/lang/String" "value" "[B" (.ref q.2) q.1 A s s.heap ∧ va_T .byte q.2 4 (sByte [99, 111, 105, 110]) A s s.heap ∧ vk_R "TwoWidths$Tape" 70 "coin" q.1 s := by
  obtain ⟨q, h0, h1, h2, h3, h4⟩ := sK_of (args := args) (s := s) (A := A) (t := (.string "TwoWidths$Tape" 70)) (bs := [99, 111, 105, 110]) (by decide) (hs _ (by decide +kernel)) (hs _ (by decide +kernel)) (hs _ (by decide +kernel)) (hs _ (by decide +kernel)) (fun j hj => match j, hj with | 0, _ => hs _ (by decide +kernel) | 1, _ => hs _ (by decide +kernel) | 2, _ => hs _ (by decide +kernel) | 3, _ => hs _ (by decide +kernel) | j + 4, hj => absurd hj (by show ¬ (j + 4 < 4); omega)) hA
  exact ⟨q, h1, h2, h3, h4, vk_R.of (hts _ (lw_t3 94 rfl)) h0⟩
set_option maxRecDepth 100000 in
theorem st_9 (hs : ∀ w ∈ flatC (Jvm.Cond.and given_1 narrow_1), w.before args s = true) (hts : ∀ w ∈ lw_tbl, w.before args s = true) (hA : ∀ a : Nat, a < s.heap.size → ¬ A a) : ∃ q : Nat × Nat, va_O "java/lang/String" q.1 A s s.heap ∧ va_OF "java/lang/String" "coder" "B" (.int 0) q.1 A s s.heap ∧ va_OF "java/lang/String" "value" "[B" (.ref q.2) q.1 A s s.heap ∧ va_T .byte q.2 5 (sByte [121, 101, 97, 114, 115]) A s s.heap ∧ vk_R "TwoWidths$Tape" 75 "years" q.1 s := by
  obtain ⟨q, h0, h1, h2, h3, h4⟩ := sK_of (args := args) (s := s) (A := A) (t := (.string "TwoWidths$Tape" 75)) (bs := [121, 101, 97, 114, 115]) (by decide) (hs _ (by decide +kernel)) (hs _ (by decide +kernel)) (hs _ (by decide +kernel)) (hs _ (by decide +kernel)) (fun j hj => match j, hj with | 0, _ => hs _ (by decide +kernel) | 1, _ => hs _ (by decide +kernel) | 2, _ => hs _ (by decide +kernel) | 3, _ => hs _ (by decide +kernel) | 4, _ => hs _ (by decide +kernel) | j + 5, hj => absurd hj (by show ¬ (j + 5 < 5); omega)) hA
  exact ⟨q, h1, h2, h3, h4, vk_R.of (hts _ (lw_t3 100 rfl)) h0⟩
set_option maxRecDepth 100000 in
theorem st_10 (hs : ∀ w ∈ flatC (Jvm.Cond.and given_1 narrow_1), w.before args s = true) (hts : ∀ w ∈ lw_tbl, w.before args s = true) (hA : ∀ a : Nat, a < s.heap.size → ¬ A a) : ∃ q : Nat × Nat, va_O "java/lang/String" q.1 A s s.heap ∧ va_OF "java/lang/String" "coder" "B" (.int 0) q.1 A s s.heap ∧ va_OF "java/lang/String" "value" "[B" (.ref q.2) q.1 A s s.heap ∧ va_T .byte q.2 4 (sByte [108, 105, 110, 101]) A s s.heap ∧ vk_R "TwoWidthsModel" 206 "line" q.1 s := by
  obtain ⟨q, h0, h1, h2, h3, h4⟩ := sK_of (args := args) (s := s) (A := A) (t := (.string "TwoWidthsModel" 206)) (bs := [108, 105, 110, 101]) (by decide) (hs _ (by decide +kernel)) (hs _ (by decide +kernel)) (hs _ (by decide +kernel)) (hs _ (by decide +kernel)) (fun j hj => match j, hj with | 0, _ => hs _ (by decide +kernel) | 1, _ => hs _ (by decide +kernel) | 2, _ => hs _ (by decide +kernel) | 3, _ => hs _ (by decide +kernel) | j + 4, hj => absurd hj (by show ¬ (j + 4 < 4); omega)) hA
  exact ⟨q, h1, h2, h3, h4, vk_R.of (hts _ (lw_t6 69 rfl)) h0⟩
set_option maxRecDepth 100000 in
theorem st_11 (hs : ∀ w ∈ flatC (Jvm.Cond.and given_1 narrow_1), w.before args s = true) (hts : ∀ w ∈ lw_tbl, w.before args s = true) (hA : ∀ a : Nat, a < s.heap.size → ¬ A a) : ∃ q : Nat × Nat, va_O "java/lang/String" q.1 A s s.heap ∧ va_OF "java/lang/String" "coder" "B" (.int 0) q.1 A s s.heap ∧ va_OF "java/lang/String" "value" "[B" (.ref q.2) q.1 A s s.heap ∧ va_T .byte q.2 5 (sByte [119, 105, 100, 116, 104]) A s s.heap ∧ vk_R "TwoWidthsModel" 211 "width" q.1 s := by
  obtain ⟨q, h0, h1, h2, h3, h4⟩ := sK_of (args := args) (s := s) (A := A) (t := (.string "TwoWidthsModel" 211)) (bs := [119, 105, 100, 116, 104]) (by decide) (hs _ (by decide +kernel)) (hs _ (by decide +kernel)) (hs _ (by decide +kernel)) (hs _ (by decide +kernel)) (fun j hj => match j, hj with | 0, _ => hs _ (by decide +kernel) | 1, _ => hs _ (by decide +kernel) | 2, _ => hs _ (by decide +kernel) | 3, _ => hs _ (by decide +kernel) | 4, _ => hs _ (by decide +kernel) | j + 5, hj => absurd hj (by show ¬ (j + 5 < 5); omega)) hA
  exact ⟨q, h1, h2, h3, h4, vk_R.of (hts _ (lw_t6 88 rfl)) h0⟩
set_option maxRecDepth 100000 in
theorem st_12 (hs : ∀ w ∈ flatC (Jvm.Cond.and given_1 narrow_1), w.before args s = true) (hts : ∀ w ∈ lw_tbl, w.before args s = true) (hA : ∀ a : Nat, a < s.heap.size → ¬ A a) : ∃ q : Nat × Nat, va_O "java/lang/String" q.1 A s s.heap ∧ va_OF "java/lang/String" "coder" "B" (.int 0) q.1 A s s.heap ∧ va_OF "java/lang/String" "value" "[B" (.ref q.2) q.1 A s s.heap ∧ va_T .byte q.2 5 (sByte [109, 105, 108, 101, 115]) A s s.heap ∧ vk_R "TwoWidthsModel" 213 "miles" q.1 s := by
  obtain ⟨q, h0, h1, h2, h3, h4⟩ := sK_of (args := args) (s := s) (A := A) (t := (.string "TwoWidthsModel" 213)) (bs := [109, 105, 108, 101, 115]) (by decide) (hs _ (by decide +kernel)) (hs _ (by decide +kernel)) (hs _ (by decide +kernel)) (hs _ (by decide +kernel)) (fun j hj => match j, hj with | 0, _ => hs _ (by decide +kernel) | 1, _ => hs _ (by decide +kernel) | 2, _ => hs _ (by decide +kernel) | 3, _ => hs _ (by decide +kernel) | 4, _ => hs _ (by decide +kernel) | j + 5, hj => absurd hj (by show ¬ (j + 5 < 5); omega)) hA
  exact ⟨q, h1, h2, h3, h4, vk_R.of (hts _ (lw_t6 93 rfl)) h0⟩
set_option maxRecDepth 100000 in
theorem st_13 (hs : ∀ w ∈ flatC (Jvm.Cond.and given_1 narrow_1), w.before args s = true) (hts : ∀ w ∈ lw_tbl, w.before args s = true) (hA : ∀ a : Nat, a < s.heap.size → ¬ A a) : ∃ q : Nat × Nat, va_O "java/lang/String" q.1 A s s.heap ∧ va_OF "java/lang/String" "coder" "B" (.int 0) q.1 A s s.heap ∧ va_OF "java/lang/String" "value" "[B" (.ref q.2) q.1 A s s.heap ∧ va_T .byte q.2 5 (sByte [98, 101, 97, 114, 115]) A s s.heap ∧ vk_R "TwoWidthsModel" 215 "bears" q.1 s := by
  obtain ⟨q, h0, h1, h2, h3, h4⟩ := sK_of (args := args) (s := s) (A := A) (t := (.string "TwoWidthsModel" 215)) (bs := [98, 101, 97, 114, 115]) (by decide) (hs _ (by decide +kernel)) (hs _ (by decide +kernel)) (hs _ (by decide +kernel)) (hs _ (by decide +kernel)) (fun j hj => match j, hj with | 0, _ => hs _ (by decide +kernel) | 1, _ => hs _ (by decide +kernel) | 2, _ => hs _ (by decide +kernel) | 3, _ => hs _ (by decide +kernel) | 4, _ => hs _ (by decide +kernel) | j + 5, hj => absurd hj (by show ¬ (j + 5 < 5); omega)) hA
  exact ⟨q, h1, h2, h3, h4, vk_R.of (hts _ (lw_t6 94 rfl)) h0⟩
set_option maxRecDepth 100000 in
theorem st_14 (hs : ∀ w ∈ flatC (Jvm.Cond.and given_1 narrow_1), w.before args s = true) (hts : ∀ w ∈ lw_tbl, w.before args s = true) (hA : ∀ a : Nat, a < s.heap.size → ¬ A a) : ∃ q : Nat × Nat, va_O "java/lang/String" q.1 A s s.heap ∧ va_OF "java/lang/String" "coder" "B" (.int 0) q.1 A s s.heap ∧ va_OF "java/lang/String" "value" "[B" (.ref q.2) q.1 A s s.heap ∧ va_T .byte q.2 5 (sByte [111, 119, 110, 101, 114]) A s s.heap ∧ vk_R "TwoWidthsModel" 220 "owner" q.1 s := by
  obtain ⟨q, h0, h1, h2, h3, h4⟩ := sK_of (args := args) (s := s) (A := A) (t := (.string "TwoWidthsModel" 220)) (bs := [111, 119, 110, 101, 114]) (by decide) (hs _ (by decide +kernel)) (hs _ (by decide +kernel)) (hs _ (by decide +kernel)) (hs _ (by decide +kernel)) (fun j hj => match j, hj with | 0, _ => hs _ (by decide +kernel) | 1, _ => hs _ (by decide +kernel) | 2, _ => hs _ (by decide +kernel) | 3, _ => hs _ (by decide +kernel) | 4, _ => hs _ (by decide +kernel) | j + 5, hj => absurd hj (by show ¬ (j + 5 < 5); omega)) hA
  exact ⟨q, h1, h2, h3, h4, vk_R.of (hts _ (lw_t6 99 rfl)) h0⟩
set_option maxRecDepth 100000 in
theorem st_15 (hs : ∀ w ∈ flatC (Jvm.Cond.and given_1 narrow_1), w.before args s = true) (hts : ∀ w ∈ lw_tbl, w.before args s = true) (hA : ∀ a : Nat, a < s.heap.size → ¬ A a) : ∃ q : Nat × Nat, va_O "java/lang/String" q.1 A s s.heap ∧ va_OF "java/lang/String" "coder" "B" (.int 0) q.1 A s s.heap ∧ va_OF "java/lang/String" "value" "[B" (.ref q.2) q.1 A s s.heap ∧ va_T .byte q.2 5 (sByte [103, 111, 111, 100, 115]) A s s.heap ∧ vk_R "TwoWidthsModel" 222 "goods" q.1 s := by
  obtain ⟨q, h0, h1, h2, h3, h4⟩ := sK_of (args := args) (s := s) (A := A) (t := (.string "TwoWidthsModel" 222)) (bs := [103, 111, 111, 100, 115]) (by decide) (hs _ (by decide +kernel)) (hs _ (by decide +kernel)) (hs _ (by decide +kernel)) (hs _ (by decide +kernel)) (fun j hj => match j, hj with | 0, _ => hs _ (by decide +kernel) | 1, _ => hs _ (by decide +kernel) | 2, _ => hs _ (by decide +kernel) | 3, _ => hs _ (by decide +kernel) | 4, _ => hs _ (by decide +kernel) | j + 5, hj => absurd hj (by show ¬ (j + 5 < 5); omega)) hA
  exact ⟨q, h1, h2, h3, h4, vk_R.of (hts _ (lw_t6 100 rfl)) h0⟩
set_option maxRecDepth 100000 in
theorem st_16 (hs : ∀ w ∈ flatC (Jvm.Cond.and given_1 narrow_1), w.before args s = true) (hts : ∀ w ∈ lw_tbl, w.before args s = true) (hA : ∀ a : Nat, a < s.heap.size → ¬ A a) : ∃ q : Nat × Nat, va_O "java/lang/String" q.1 A s s.heap ∧ va_OF "java/lang/String" "coder" "B" (.int 0) q.1 A s s.heap ∧ va_OF "java/lang/String" "value" "[B" (.ref q.2) q.1 A s s.heap ∧ va_T .byte q.2 4 (sByte [119, 111, 114, 107]) A s s.heap ∧ vk_R "TwoWidthsModel" 223 "work" q.1 s := by
  obtain ⟨q, h0, h1, h2, h3, h4⟩ := sK_of (args := args) (s := s) (A := A) (t := (.string "TwoWidthsModel" 223)) (bs := [119, 111, 114, 107]) (by decide) (hs _ (by decide +kernel)) (hs _ (by decide +kernel)) (hs _ (by decide +kernel)) (hs _ (by decide +kernel)) (fun j hj => match j, hj with | 0, _ => hs _ (by decide +kernel) | 1, _ => hs _ (by decide +kernel) | 2, _ => hs _ (by decide +kernel) | 3, _ => hs _ (by decide +kernel) | j + 4, hj => absurd hj (by show ¬ (j + 4 < 4); omega)) hA
  exact ⟨q, h1, h2, h3, h4, vk_R.of (hts _ (lw_t6 101 rfl)) h0⟩
set_option maxRecDepth 100000 in
theorem st_17 (hs : ∀ w ∈ flatC (Jvm.Cond.and given_1 narrow_1), w.before args s = true) (hts : ∀ w ∈ lw_tbl, w.before args s = true) (hA : ∀ a : Nat, a < s.heap.size → ¬ A a) : ∃ q : Nat × Nat, va_O "java/lang/String" q.1 A s s.heap ∧ va_OF "java/lang/String" "coder" "B" (.int 0) q.1 A s s.heap ∧ va_OF "java/lang/String" "value" "[B" (.ref q.2) q.1 A s s.heap ∧ va_T .byte q.2 6 (sByte [99, 104, 97, 110, 103, 101]) A s s.heap ∧ vk_R "TwoWidthsModel" 227 "change" q.1 s := by
  obtain ⟨q, h0, h1, h2, h3, h4⟩ := sK_of (args := args) (s := s) (A := A) (t := (.string "TwoWidthsModel" 227)) (bs := [99, 104, 97, 110, 103, 101]) (by decide) (hs _ (by decide +kernel)) (hs _ (by decide +kernel)) (hs _ (by decide +kernel)) (hs _ (by decide +kernel)) (fun j hj => match j, hj with | 0, _ => hs _ (by decide +kernel) | 1, _ => hs _ (by decide +kernel) | 2, _ => hs _ (by decide +kernel) | 3, _ => hs _ (by decide +kernel) | 4, _ => hs _ (by decide +kernel) | 5, _ => hs _ (by decide +kernel) | j + 6, hj => absurd hj (by show ¬ (j + 6 < 6); omega)) hA
  exact ⟨q, h1, h2, h3, h4, vk_R.of (hts _ (lw_t6 106 rfl)) h0⟩
set_option maxRecDepth 100000 in
theorem st_18 (hs : ∀ w ∈ flatC (Jvm.Cond.and given_1 narrow_1), w.before args s = true) (hts : ∀ w ∈ lw_tbl, w.before args s = true) (hA : ∀ a : Nat, a < s.heap.size → ¬ A a) : ∃ q : Nat × Nat, va_O "java/lang/String" q.1 A s s.heap ∧ va_OF "java/lang/String" "coder" "B" (.int 0) q.1 A s s.heap ∧ va_OF "java/lang/String" "value" "[B" (.ref q.2) q.1 A s s.heap ∧ va_T .byte q.2 4 (sByte [99, 111, 105, 110]) A s s.heap ∧ vk_R "TwoWidthsModel" 229 "coin" q.1 s := by
  obtain ⟨q, h0, h1, h2, h3, h4⟩ := sK_of (args := args) (s := s) (A := A) (t := (.string "TwoWidthsModel" 229)) (bs := [99, 111, 105, 110]) (by decide) (hs _ (by decide +kernel)) (hs _ (by decide +kernel)) (hs _ (by decide +kernel)) (hs _ (by decide +kernel)) (fun j hj => match j, hj with | 0, _ => hs _ (by decide +kernel) | 1, _ => hs _ (by decide +kernel) | 2, _ => hs _ (by decide +kernel) | 3, _ => hs _ (by decide +kernel) | j + 4, hj => absurd hj (by show ¬ (j + 4 < 4); omega)) hA
  exact ⟨q, h1, h2, h3, h4, vk_R.of (hts _ (lw_t6 107 rfl)) h0⟩
set_option maxRecDepth 100000 in
theorem st_19 (hs : ∀ w ∈ flatC (Jvm.Cond.and given_1 narrow_1), w.before args s = true) (hts : ∀ w ∈ lw_tbl, w.before args s = true) (hA : ∀ a : Nat, a < s.heap.size → ¬ A a) : ∃ q : Nat × Nat, va_O "java/lang/String" q.1 A s s.heap ∧ va_OF "java/lang/String" "coder" "B" (.int 0) q.1 A s s.heap ∧ va_OF "java/lang/String" "value" "[B" (.ref q.2) q.1 A s s.heap ∧ va_T .byte q.2 5 (sByte [121, 101, 97, 114, 115]) A s s.heap ∧ vk_R "TwoWidthsModel" 231 "years" q.1 s := by
  obtain ⟨q, h0, h1, h2, h3, h4⟩ := sK_of (args := args) (s := s) (A := A) (t := (.string "TwoWidthsModel" 231)) (bs := [121, 101, 97, 114, 115]) (by decide) (hs _ (by decide +kernel)) (hs _ (by decide +kernel)) (hs _ (by decide +kernel)) (hs _ (by decide +kernel)) (fun j hj => match j, hj with | 0, _ => hs _ (by decide +kernel) | 1, _ => hs _ (by decide +kernel) | 2, _ => hs _ (by decide +kernel) | 3, _ => hs _ (by decide +kernel) | 4, _ => hs _ (by decide +kernel) | j + 5, hj => absurd hj (by show ¬ (j + 5 < 5); omega)) hA
  exact ⟨q, h1, h2, h3, h4, vk_R.of (hts _ (lw_t6 108 rfl)) h0⟩
theorem st_all (hs : ∀ w ∈ flatC (Jvm.Cond.and given_1 narrow_1), w.before args s = true) (hts : ∀ w ∈ lw_tbl, w.before args s = true) (hA : ∀ a : Nat, a < s.heap.size → ¬ A a) (i : Nat) : ∃ q : Nat × Nat, ∀ r, strT[i]? = some r → va_O "java/lang/String" q.1 A s s.heap ∧ va_OF "java/lang/String" "coder" "B" (.int 0) q.1 A s s.heap ∧ va_OF "java/lang/String" "value" "[B" (.ref q.2) q.1 A s s.heap ∧ va_T .byte q.2 r.2.2.2.length (sByte r.2.2.2) A s s.heap ∧ vk_R r.1 r.2.1 r.2.2.1 q.1 s :=
  match i with
  | 0 => by
    obtain ⟨q, h⟩ := sta_0 (args := args) (s := s) (A := A) hs hts hA
    exact ⟨q, fun r hr => by cases hr; exact h⟩
  | 1 => by
    obtain ⟨q, h⟩ := sta_1 (args := args) (s := s) (A := A) hs hts hA
    exact ⟨q, fun r hr => by cases hr; exact h⟩
  | 2 => by
    obtain ⟨q, h⟩ := sta_2 (args := args) (s := s) (A := A) hs hts hA
    exact ⟨q, fun r hr => by cases hr; exact h⟩
  | 3 => by
    obtain ⟨q, h⟩ := sta_3 (args := args) (s := s) (A := A) hs hts hA
    exact ⟨q, fun r hr => by cases hr; exact h⟩
  | 4 => by
    obtain ⟨q, h⟩ := st_4 (args := args) (s := s) (A := A) hs hts hA
    exact ⟨q, fun r hr => by cases hr; exact h⟩
  | 5 => by
    obtain ⟨q, h⟩ := st_5 (args := args) (s := s) (A := A) hs hts hA
    exact ⟨q, fun r hr => by cases hr; exact h⟩
  | 6 => by
    obtain ⟨q, h⟩ := st_6 (args := args) (s := s) (A := A) hs hts hA
    exact ⟨q, fun r hr => by cases hr; exact h⟩
  | 7 => by
    obtain ⟨q, h⟩ := st_7 (args := args) (s := s) (A := A) hs hts hA
    exact ⟨q, fun r hr => by cases hr; exact h⟩
  | 8 => by
    obtain ⟨q, h⟩ := st_8 (args := args) (s := s) (A := A) hs hts hA
    exact ⟨q, fun r hr => by cases hr; exact h⟩
  | 9 => by
    obtain ⟨q, h⟩ := st_9 (args := args) (s := s) (A := A) hs hts hA
    exact ⟨q, fun r hr => by cases hr; exact h⟩
  | 10 => by
    obtain ⟨q, h⟩ := st_10 (args := args) (s := s) (A := A) hs hts hA
    exact ⟨q, fun r hr => by cases hr; exact h⟩
  | 11 => by
    obtain ⟨q, h⟩ := st_11 (args := args) (s := s) (A := A) hs hts hA
    exact ⟨q, fun r hr => by cases hr; exact h⟩
  | 12 => by
    obtain ⟨q, h⟩ := st_12 (args := args) (s := s) (A := A) hs hts hA
    exact ⟨q, fun r hr => by cases hr; exact h⟩
  | 13 => by
    obtain ⟨q, h⟩ := st_13 (args := args) (s := s) (A := A) hs hts hA
    exact ⟨q, fun r hr => by cases hr; exact h⟩
  | 14 => by
    obtain ⟨q, h⟩ := st_14 (args := args) (s := s) (A := A) hs hts hA
    exact ⟨q, fun r hr => by cases hr; exact h⟩
  | 15 => by
    obtain ⟨q, h⟩ := st_15 (args := args) (s := s) (A := A) hs hts hA
    exact ⟨q, fun r hr => by cases hr; exact h⟩
  | 16 => by
    obtain ⟨q, h⟩ := st_16 (args := args) (s := s) (A := A) hs hts hA
    exact ⟨q, fun r hr => by cases hr; exact h⟩
  | 17 => by
    obtain ⟨q, h⟩ := st_17 (args := args) (s := s) (A := A) hs hts hA
    exact ⟨q, fun r hr => by cases hr; exact h⟩
  | 18 => by
    obtain ⟨q, h⟩ := st_18 (args := args) (s := s) (A := A) hs hts hA
    exact ⟨q, fun r hr => by cases hr; exact h⟩
  | 19 => by
    obtain ⟨q, h⟩ := st_19 (args := args) (s := s) (A := A) hs hts hA
    exact ⟨q, fun r hr => by cases hr; exact h⟩
  | j + 20 => ⟨(0, 0), fun r hr => by cases hr⟩
set_option maxRecDepth 100000 in
theorem gl_of (hs : ∀ w ∈ flatC (Jvm.Cond.and given_1 narrow_1), w.before args s = true) (hts : ∀ w ∈ lw_tbl, w.before args s = true) (hA : ∀ a : Nat, a < s.heap.size → ¬ A a) : ∃ d : DT, Gl d A s s.heap := by
  have hgw : ∀ w ∈ gW, w.before args s = true := fun w hw => hts w (List.mem_filter.mp hw).1
  obtain ⟨c0, i0, k0⟩ := u_known (C := RX0) (T := TX0) (N := 4) (n := 4) hgw wl_X0 (hgw _ win_X0)
  obtain ⟨c1, i1, k1⟩ := u_known (C := RX1) (T := TX1) (N := 11) (n := 11) hgw wl_X1 (hgw _ win_X1)
  obtain ⟨c2, i2, k2⟩ := u_known (C := RX2) (T := TX2) (N := 3) (n := 3) hgw wl_X2 (hgw _ win_X2)
  obtain ⟨c3, i3, k3⟩ := u_known (C := RX3) (T := TX3) (N := 6) (n := 6) hgw wl_X3 (hgw _ win_X3)
  obtain ⟨c4, i4, k4⟩ := u_known (C := RX4) (T := TX4) (N := 5) (n := 5) hgw wl_X4 (hgw _ win_X4)
  obtain ⟨c5, i5, k5⟩ := u_known (C := RX5) (T := TX5) (N := 14) (n := 14) hgw wl_X5 (hgw _ win_X5)
  obtain ⟨c6, i6, k6⟩ := u_known (C := RX6) (T := TX6) (N := 10) (n := 10) hgw wl_X6 (hgw _ win_X6)
  obtain ⟨c7, i7, k7⟩ := u_known (C := RX7) (T := TX7) (N := 38) (n := 38) hgw wl_X7 (hgw _ win_X7)
  obtain ⟨a0, f0, g0⟩ := ar_of (args := args) (s := s) (ty := .int) (hts _ (lw_t1 86 rfl))
  obtain ⟨a1, f1, g1⟩ := ar_of (args := args) (s := s) (ty := .long) (hts _ (lw_t1 135 rfl))
  have o2 : (Cond.arrayOver (.array .int)).before args s = true := (hts _ (lw_t5 40 rfl))
  have o3 : (Cond.arrayOver (.array .long)).before args s = true := (hts _ (lw_t1 120 rfl))
  obtain ⟨a2, f2, g2⟩ := ao_of o2
  obtain ⟨a3, f3, g3⟩ := ao_of o3
  obtain ⟨t, ht, hT⟩ := va_Tof (args := args) (s := s) (tm := .static "TwoWidths" "ABOVE" "[I") (ty := .int) (N := 6) (f := abF) (A := A) (by decide) (hs _ (by decide +kernel)) (va_eqt (hs _ (by decide +kernel))) (fun j hj => match j, hj with | 0, _ => va_eqt (hs _ (by decide +kernel)) | 1, _ => va_eqt (hs _ (by decide +kernel)) | 2, _ => va_eqt (hs _ (by decide +kernel)) | 3, _ => va_eqt (hs _ (by decide +kernel)) | 4, _ => va_eqt (hs _ (by decide +kernel)) | 5, _ => va_eqt (hs _ (by decide +kernel)) | j + 6, hj => absurd hj (by omega)) hA
  obtain ⟨ad, had⟩ := Classical.axiomOfChoice (st_all hs hts hA)
  refine ⟨((fun c => match c with | 0 => c0 | 1 => c1 | 2 => c2 | 3 => c3 | 4 => c4 | 5 => c5 | 6 => c6 | _ => c7, fun c => match c with | 0 => i0 | 1 => i1 | 2 => i2 | 3 => i3 | 4 => i4 | 5 => i5 | 6 => i6 | _ => i7), (fun k => match k with | 0 => a0 | 1 => a1 | 2 => a2 | _ => a3), t, fun i => (ad i).1, fun i => (ad i).2), ⟨fun c q hq => ?_, fun k q hq => ?_⟩, fun w hw => ?_, va_AOA.of o2, va_AOA.of o3, va_Zof (hts _ (lw_t2 120 rfl)) (hts _ (lw_t1 1 rfl)) ht hA, hT, va_Zof (hts _ (lw_t3 12 rfl)) (hts _ (lw_t1 11 rfl)) (va_eqi (hs _ (by decide +kernel))) hA, va_Zqof (hts _ (lw_t3 28 rfl)) (hts _ (lw_t1 13 rfl)) (hs _ (by decide +kernel)) hA, fun i q hq => had i q hq⟩
  · match c, hq with
    | 0, hq => cases hq; exact k0
    | 1, hq => cases hq; exact k1
    | 2, hq => cases hq; exact k2
    | 3, hq => cases hq; exact k3
    | 4, hq => cases hq; exact k4
    | 5, hq => cases hq; exact k5
    | 6, hq => cases hq; exact k6
    | 7, hq => cases hq; exact k7
    | c + 8, hq => cases hq
  · match k, hq with
    | 0, hq => cases hq; exact ⟨g0, f0⟩
    | 1, hq => cases hq; exact ⟨g1, f1⟩
    | 2, hq => cases hq; exact ⟨g2, f2⟩
    | 3, hq => cases hq; exact ⟨g3, f3⟩
    | k + 4, hq => cases hq
  · obtain ⟨a, i, x, z, rfl⟩ := nestW_one w hw
    exact va_Nw.of rfl (hts _ (List.mem_filter.mp hw).1)
end LW
/-! THE CLAIM OUT OF ONE WALK OF THE LAW'S BODY. Your part is whole_start (and what it stands on); all else here is the same for every law, but numbers. -/
def R_law : String := "TwoWidthsLaw"
def lw_P (b : Addr) (xs : List Int32) (args : Array Value) (s : State) : Prop := args = #[.ref b] ∧ s.IntsAt b xs ∧ xs.length ≤ 3584 ∧ (Jvm.Cond.and given_1 narrow_1).before args s = true
def lw_Q (_ : Array Value) (s : State) (o : Outcome) (t : State) : Prop := o = .returned (some (.int 1)) ∧ Framed s o t [] 600000 7302250
def lw_Z (below : List Frame) (a : Array Value) (s : State) : State → Prop := fun t => ∃ o, t.status = .running ∧ Ended t below o ∧ lw_Q a s o t
/-- the law's own end, with 1 on the stack, nothing written that was there before, its room as the claim has it -/
theorem lw_ret {p : Program} {l : Launch} {e : Env} {s : State} {m : MethodId} {below : List Frame} {meth : Method} {c : Code} {b : Nat} (hx : p.tables.exec = Jvm.exec) (hb : c.code = code) (hr : meth.sig.returnType = ret) (hlocks : meth.locks = false) {pc : Nat} {H : Heap} {ls : Array Slot} (hdg : decode code pc = .ok (.ireturn, 1)) : W p l e room_1 s m #[Value.ref b] below meth c H [] 600000 7302250 (lw_Z below #[Value.ref b] s) (F0 m pc ls [.int 1]) := by
  intro T hT X
  obtain ⟨fs, hret, hrun, hended, hW, hframe⟩ := X.leave (v := some (.int 1)) (hlocks := hlocks) (fun h => by rw [hr] at h; cases h)
  have hmeth' : T.vm.method? m = some meth := X.method'
  refine ⟨T.setFrames fs, ?_, .returned (some (.int 1)), hrun, hended, rfl, ⟨_, rfl⟩, hW, hframe⟩
  jvm_step X.here [X.here.top, hx, hb, hdg, hmeth', hr, ret, narrow_b1]
  (try refine ⟨rfl, ?_⟩); (try refine ⟨rfl, ?_⟩)
  first | (intro acts; rw [hret _ acts rfl rfl rfl]) | rw [hret _ _ rfl rfl rfl]
  exact Steps.refl _
/-- what holds at the law's entry: the machine, the code, the tables' words (any of lw_tbl by 'hts w (by decide +kernel)'), the script of L ints xs at the cell b, what the Statement gives of the start (any of its parts by flat_of_before) -/
def lw_At (p : Program) (s : State) (m : MethodId) (meth : Method) (c : Code) (b L : Nat) (xs : Nat → Int32) : Prop :=
  p.tables.exec = Jvm.exec ∧ c.code = code ∧ meth.sig.returnType = ret ∧ c.maxLocals = 4 ∧ s.vm.findClass R_law = some m.cls ∧ (∀ w ∈ lw_tbl, w.before #[Value.ref b] s = true) ∧ va_X b L xs s s.heap ∧ b < s.heap.size ∧ meth.locks = false ∧ (Jvm.Cond.and given_1 narrow_1).before #[Value.ref b] s = true
