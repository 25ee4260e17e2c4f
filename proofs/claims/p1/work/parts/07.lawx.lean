def tmS : Nat → Term := fun i => match i with | 0 => .string "HalfCourt$Tokens" 43 | 1 => .string "HalfCourt$Tokens" 49 | 2 => .string "HalfCourt$Tokens" 51 | 3 => .string "HalfCourt$Tokens" 53 | _ => .string "HalfCourt$Tokens" 55
def lsS (i : Nat) : List Cond := [Cond.exactly (tmS i) "java/lang/String", Cond.eq (.field (tmS i) "java/lang/String" "coder" "B") (.int 0), Cond.arrayOf (.field (tmS i) "java/lang/String" "value" "[B") .byte, Cond.eq (.length (.field (tmS i) "java/lang/String" "value" "[B")) (.int (Int32.ofNat (lenS.getD i 0)))] ++ (List.range (lenS.getD i 0)).map (fun j => Cond.eq (.elem (.field (tmS i) "java/lang/String" "value" "[B") (.int (Int32.ofNat j))) (.int ((bytS.getD i []).getD j 0)))
set_option maxHeartbeats 4000000 in
set_option maxRecDepth 100000 in
theorem law_T0 : ((flatC (Jvm.Cond.and given_1 narrow_1)).drop 31).take 6 = lsS 0 := by decide +kernel
set_option maxHeartbeats 4000000 in
set_option maxRecDepth 100000 in
theorem law_T1 : ((flatC (Jvm.Cond.and given_1 narrow_1)).drop 37).take 30 = lsS 1 := by decide +kernel
set_option maxHeartbeats 4000000 in
set_option maxRecDepth 100000 in
theorem law_T2 : ((flatC (Jvm.Cond.and given_1 narrow_1)).drop 68).take 14 = lsS 2 := by decide +kernel
set_option maxHeartbeats 4000000 in
set_option maxRecDepth 100000 in
theorem law_T3 : ((flatC (Jvm.Cond.and given_1 narrow_1)).drop 84).take 15 = lsS 3 := by decide +kernel
set_option maxHeartbeats 4000000 in
set_option maxRecDepth 100000 in
theorem law_T4 : ((flatC (Jvm.Cond.and given_1 narrow_1)).drop 102).take 121 = lsS 4 := by decide +kernel
theorem law_tm {w : Cond} {i B k : Nat} (h : ((flatC (Jvm.Cond.and given_1 narrow_1)).drop B).take k = lsS i) (hw : w ∈ lsS i) : w ∈ flatC (Jvm.Cond.and given_1 narrow_1) := List.mem_of_mem_drop (List.mem_of_mem_take (by rw [h]; exact hw))
theorem law_S0 : ∀ i, i < 5 → ∀ w ∈ lsS i, w ∈ flatC (Jvm.Cond.and given_1 narrow_1) := by
  intro i hi w hw
  match i, hi, hw with
  | 0, _, hw => exact law_tm law_T0 hw
  | 1, _, hw => exact law_tm law_T1 hw
  | 2, _, hw => exact law_tm law_T2 hw
  | 3, _, hw => exact law_tm law_T3 hw
  | 4, _, hw => exact law_tm law_T4 hw
theorem law_S1 (i : Nat) (hi : i < 5) : (Cond.exactly (tmS i) "java/lang/String" ∈ flatC (Jvm.Cond.and given_1 narrow_1) ∧ Cond.eq (.field (tmS i) "java/lang/String" "coder" "B") (.int 0) ∈ flatC (Jvm.Cond.and given_1 narrow_1) ∧ Cond.arrayOf (.field (tmS i) "java/lang/String" "value" "[B") .byte ∈ flatC (Jvm.Cond.and given_1 narrow_1) ∧ Cond.eq (.length (.field (tmS i) "java/lang/String" "value" "[B")) (.int (Int32.ofNat (lenS.getD i 0))) ∈ flatC (Jvm.Cond.and given_1 narrow_1)) :=
  ⟨law_S0 i hi _ (List.mem_append_left _ (List.mem_of_getElem? (i := 0) rfl)), law_S0 i hi _ (List.mem_append_left _ (List.mem_of_getElem? (i := 1) rfl)), law_S0 i hi _ (List.mem_append_left _ (List.mem_of_getElem? (i := 2) rfl)), law_S0 i hi _ (List.mem_append_left _ (List.mem_of_getElem? (i := 3) rfl))⟩
theorem law_S2 (i : Nat) (hi : i < 5) (j : Nat) (hj : j < lenS.getD i 0) : Cond.eq (.elem (.field (tmS i) "java/lang/String" "value" "[B") (.int (Int32.ofNat j))) (.int ((bytS.getD i []).getD j 0)) ∈ flatC (Jvm.Cond.and given_1 narrow_1) :=
  law_S0 i hi _ (List.mem_append_right _ (List.mem_map.mpr ⟨j, List.mem_range.mpr hj, rfl⟩))
set_option maxHeartbeats 4000000 in
set_option maxRecDepth 100000 in
theorem law_N01 : Cond.not (Cond.eq (tmS 0) (tmS 1)) ∈ flatC (Jvm.Cond.and given_1 narrow_1) := List.mem_of_getElem? (i := 67) (by decide +kernel)
set_option maxHeartbeats 4000000 in
set_option maxRecDepth 100000 in
theorem law_N02 : Cond.not (Cond.eq (tmS 0) (tmS 2)) ∈ flatC (Jvm.Cond.and given_1 narrow_1) := List.mem_of_getElem? (i := 82) (by decide +kernel)
set_option maxHeartbeats 4000000 in
set_option maxRecDepth 100000 in
theorem law_N12 : Cond.not (Cond.eq (tmS 1) (tmS 2)) ∈ flatC (Jvm.Cond.and given_1 narrow_1) := List.mem_of_getElem? (i := 83) (by decide +kernel)
set_option maxHeartbeats 4000000 in
set_option maxRecDepth 100000 in
theorem law_N03 : Cond.not (Cond.eq (tmS 0) (tmS 3)) ∈ flatC (Jvm.Cond.and given_1 narrow_1) := List.mem_of_getElem? (i := 99) (by decide +kernel)
set_option maxHeartbeats 4000000 in
set_option maxRecDepth 100000 in
theorem law_N13 : Cond.not (Cond.eq (tmS 1) (tmS 3)) ∈ flatC (Jvm.Cond.and given_1 narrow_1) := List.mem_of_getElem? (i := 100) (by decide +kernel)
set_option maxHeartbeats 4000000 in
set_option maxRecDepth 100000 in
theorem law_N23 : Cond.not (Cond.eq (tmS 2) (tmS 3)) ∈ flatC (Jvm.Cond.and given_1 narrow_1) := List.mem_of_getElem? (i := 101) (by decide +kernel)
set_option maxHeartbeats 4000000 in
set_option maxRecDepth 100000 in
theorem law_N04 : Cond.not (Cond.eq (tmS 0) (tmS 4)) ∈ flatC (Jvm.Cond.and given_1 narrow_1) := List.mem_of_getElem? (i := 223) (by decide +kernel)
set_option maxHeartbeats 4000000 in
set_option maxRecDepth 100000 in
theorem law_N14 : Cond.not (Cond.eq (tmS 1) (tmS 4)) ∈ flatC (Jvm.Cond.and given_1 narrow_1) := List.mem_of_getElem? (i := 224) (by decide +kernel)
set_option maxHeartbeats 4000000 in
set_option maxRecDepth 100000 in
theorem law_N24 : Cond.not (Cond.eq (tmS 2) (tmS 4)) ∈ flatC (Jvm.Cond.and given_1 narrow_1) := List.mem_of_getElem? (i := 225) (by decide +kernel)
set_option maxHeartbeats 4000000 in
set_option maxRecDepth 100000 in
theorem law_N34 : Cond.not (Cond.eq (tmS 3) (tmS 4)) ∈ flatC (Jvm.Cond.and given_1 narrow_1) := List.mem_of_getElem? (i := 226) (by decide +kernel)
theorem law_S3 (i : Nat) (hi : i < 5) (j : Nat) (hj : j < 5) (hne : i ≠ j) : (Cond.not (Cond.eq (tmS i) (tmS j)) ∈ flatC (Jvm.Cond.and given_1 narrow_1) ∨ Cond.not (Cond.eq (tmS j) (tmS i)) ∈ flatC (Jvm.Cond.and given_1 narrow_1)) := by
  match i, hi, j, hj, hne with
  | 0, _, 0, _, h => exact absurd rfl h
  | 0, _, 1, _, h => exact Or.inl law_N01
  | 0, _, 2, _, h => exact Or.inl law_N02
  | 0, _, 3, _, h => exact Or.inl law_N03
  | 0, _, 4, _, h => exact Or.inl law_N04
  | 1, _, 0, _, h => exact Or.inr law_N01
  | 1, _, 1, _, h => exact absurd rfl h
  | 1, _, 2, _, h => exact Or.inl law_N12
  | 1, _, 3, _, h => exact Or.inl law_N13
  | 1, _, 4, _, h => exact Or.inl law_N14
  | 2, _, 0, _, h => exact Or.inr law_N02
  | 2, _, 1, _, h => exact Or.inr law_N12
  | 2, _, 2, _, h => exact absurd rfl h
  | 2, _, 3, _, h => exact Or.inl law_N23
  | 2, _, 4, _, h => exact Or.inl law_N24
  | 3, _, 0, _, h => exact Or.inr law_N03
  | 3, _, 1, _, h => exact Or.inr law_N13
  | 3, _, 2, _, h => exact Or.inr law_N23
  | 3, _, 3, _, h => exact absurd rfl h
  | 3, _, 4, _, h => exact Or.inl law_N34
  | 4, _, 0, _, h => exact Or.inr law_N04
  | 4, _, 1, _, h => exact Or.inr law_N14
  | 4, _, 2, _, h => exact Or.inr law_N24
  | 4, _, 3, _, h => exact Or.inr law_N34
  | 4, _, 4, _, h => exact absurd rfl h
set_option maxHeartbeats 4000000 in
set_option maxRecDepth 100000 in
theorem law_XC {args : Array Value} {s : State} {A : Nat → Prop} (htsL : ∀ w ∈ lw_tbl, w.before args s = true) (hgv : (Jvm.Cond.and given_1 narrow_1).before args s = true) (hA0 : ∀ a : Nat, a < s.heap.size → ¬ A a) : ∃ adK adV : Nat → Nat, XC adK adV A s s.heap := by
  have hs := flat_of_before _ hgv
  obtain ⟨adK, adV, hV, hE⟩ := vk_Sof (args := args) (s := s) (N := 5) (tm := tmS) (len := lenS) (byt := bytS) (A := A) (by decide) (fun i hi => hs _ (law_S1 i hi).1) (fun i hi => hs _ (law_S1 i hi).2.1) (fun i hi => hs _ (law_S1 i hi).2.2.1) (fun i hi => hs _ (law_S1 i hi).2.2.2) (fun i hi j hj => hs _ (law_S2 i hi j hj)) (fun i j hi hj hne => (law_S3 i hi j hj hne).imp (fun h => hs _ h) (fun h => hs _ h)) hA0
  exact ⟨adK, adV, va_Nw.of rfl (htsL _ (List.mem_of_getElem? (i := 161) (by decide +kernel))),
    va_Nw.of rfl (htsL _ (List.mem_of_getElem? (i := 182) (by decide +kernel))),
    va_Nw.of rfl (htsL _ (List.mem_of_getElem? (i := 411) (by decide +kernel))),
    va_Nw.of rfl (htsL _ (List.mem_of_getElem? (i := 437) (by decide +kernel))),
    va_Nw.of rfl (htsL _ (List.mem_of_getElem? (i := 515) (by decide +kernel))),
    va_Nw.of rfl (htsL _ (List.mem_of_getElem? (i := 1030) (by decide +kernel))),
    va_AO.of (A := args) (htsL _ (List.mem_of_getElem? (i := 158) (by decide +kernel))),
    va_AO.of (A := args) (htsL _ (List.mem_of_getElem? (i := 555) (by decide +kernel))),
    vk_R.of (htsL _ (List.mem_of_getElem? (i := 321) (by decide +kernel))) (hE 0 (by decide)),
    vk_R.of (htsL _ (List.mem_of_getElem? (i := 374) (by decide +kernel))) (hE 1 (by decide)),
    vk_R.of (htsL _ (List.mem_of_getElem? (i := 375) (by decide +kernel))) (hE 2 (by decide)),
    vk_R.of (htsL _ (List.mem_of_getElem? (i := 376) (by decide +kernel))) (hE 3 (by decide)),
    vk_R.of (htsL _ (List.mem_of_getElem? (i := 377) (by decide +kernel))) (hE 4 (by decide)),
    va_Zof (htsL _ (List.mem_of_getElem? (i := 335) (by decide +kernel))) (htsL _ (List.mem_of_getElem? (i := 108) (by decide +kernel))) (va_eqi (hs _ (List.mem_of_getElem? (i := 4) (by decide +kernel)))) hA0,
    va_Zqof (htsL _ (List.mem_of_getElem? (i := 351) (by decide +kernel))) (htsL _ (List.mem_of_getElem? (i := 110) (by decide +kernel))) (hs _ (List.mem_of_getElem? (i := 5) (by decide +kernel))) hA0,
    hV⟩
