set_option maxHeartbeats 4000000 in
set_option maxRecDepth 100000 in
theorem zX5_init (l : Launch) (dC : Nat → ClassId) (dI : Nat → Nat → Nat) (adK adV : Nat → Nat) (sz : Nat) (a0 : Nat) : Met l yX5_init (Cond.code yX5_init cX5_init 2 none :: TB) ({ frames := 1, cells := 1, slots := 4, locals := 100 }) (XP (dC, dI) adK adV [.ref a0, .int 4] sz [(a0, .inr (5, [.null, .int 0]))] []) (va_Qv (fun _ : Unit => True) (fun _ t => ∃ q_1 : Nat, va_P (dC, dI) CL [(a0, .inr (5, [.ref q_1, .int 0]))] t.heap ∧ va_K (dC, dI) CL [] t ∧ va_D (va_A [(a0, .inr (5, [.null, .int 0]))] sz) [(a0, .inr (5, [.ref q_1, .int 0]))]) (va_A [(a0, .inr (5, [.null, .int 0]))] sz)) 1 4 (va_A [(a0, .inr (5, [.null, .int 0]))] sz) := by
  refine Met.ofW (cc := cX5_init) (maxL := 2) (ret := none) (by decide) rfl ?_
  intro p e s m args below meth c s₁ B hml hv
  obtain ⟨rfl, hsz, hP, hK, hD0, hC⟩ := hv
  have hx := B.exec
  have hb := B.bytes
  have hr := B.returns
  have hts0 := atoms_spec (ws := Cond.code yX5_init cX5_init 2 none :: TB) B.pre
  have hts : ∀ w ∈ TB, w.before _ s = true := fun w h => hts0 w (List.mem_cons_of_mem _ h)
  have hown : s.vm.findClass RX5 = some m.cls := findClass_of_methodNamed B.named
  have hlocks := B.notSynchronized
  have hin : meth.name = "<init>" := (name_of_methodNamed B.named B.method).1
  subst hsz
  have hD := hD0.self (sz := s.heap.size)
  generalize hAe : va_A [(a0, .inr (5, [.null, .int 0]))] s.heap.size = A at hD hC ⊢
  have hA : ∀ q : Nat, s.heap.size ≤ q → A q := fun q h => by rw [← hAe]; exact Or.inr h
  have hl := lv_entry ([.ref a0, .int 4]) (n := 2) (Nat.le_of_ble_eq_true rfl)
  rw [lg_entry_eq]
  generalize (lg_sl ([.ref a0, .int 4]) ++ List.replicate (2 - (lg_sl ([.ref a0, .int 4])).length) Slot.unset).toArray = ls at hl ⊢
  have hl : lv_has ls 2 [(0, .ref a0), (1, .int 4)] := hl
  have hP : va_P (dC, dI) CL [(a0, .inr (5, [.null, .int 0]))] s.heap := hP
  obtain ⟨H, hH⟩ : ∃ z, z = s.heap := ⟨_, rfl⟩
  rw [← hH] at hP ⊢
  have hS : va_S A s.heap H [] := by rw [hH]; exact va_S.rf
  refine lv_aload_n hx hb dX5_init_0 rfl (lv_at hl 0 rfl) ?_
  refine W.objInit hx hb hown (hts _ mw_138) (hts _ mw_125) (hts _ mw_126) rfl (by rw [hml]; exact hl.1) rfl dX5_init_1 (Nat.le_of_ble_eq_true rfl) (Nat.le_of_ble_eq_true rfl) ?_
  refine W.eq (g2 := F0 m 4 ls []) rfl ?_
  refine lv_aload_n hx hb dX5_init_4 rfl (lv_at hl 0 rfl) ?_
  refine lv_iconst (v := 0) hx hb dX5_init_5 (by decide) ?_
  refine va_put (D := (dC, dI)) (ci := 5) (v := .int 0) (ty := .int) (C := RX5) (T := TX5) (N := 2) hx hb hts iwX5 tyX5 tyX5_ok nmX5 hown hK hP hD hS 0 rfl rfl 1 (by decide) (hts _ mw_143) (fun _ h9 => h9) rfl (by decide +kernel) rfl rfl (Nat.le_of_ble_eq_true rfl) dX5_init_6 (fun H locs hP hD hS => ?_)
  have hP : va_P (dC, dI) CL [(a0, .inr (5, [.null, .int 0]))] H := hP
  have hD : va_D A [(a0, .inr (5, [.null, .int 0]))] := hD
  refine lv_aload_n hx hb dX5_init_9 rfl (lv_at hl 0 rfl) ?_
  refine lv_iload_n hx hb dX5_init_10 rfl (lv_at hl 1 rfl) ?_
  refine lv_iconst (v := 0) hx hb dX5_init_11 (by decide) ?_
  refine va_mmax hx hb (by rw [hml]; exact hl.1.symm) hown (hts _ mw_139) (hts _ mw_140) (hts _ mw_102) (hts _ mw_141) (Nat.le_of_ble_eq_true rfl) (Nat.le_of_ble_eq_true rfl) (Nat.le_of_ble_eq_true rfl) (Nat.le_of_ble_eq_true rfl) dX5_init_12 ?_
  refine x_lit 4 (by decide) ?_
  refine va_newa (atype := .long) (n := 4) (N' := 4) (ty := .long) (a0 := (4, .inr (.inl (fun _ => 0)))) hx hb (hts _ mw_156) rfl hK hP hD hS hA (fun _ => rfl) (by decide) (by decide) (by decide) (Nat.le_of_ble_eq_true rfl) (Nat.le_of_ble_eq_true rfl) dX5_init_15 (fun q_1 k_2 H hK hP hD hS => ?_)
  have hK : va_K (dC, dI) CL [(k_2, .long)] s := hK
  have hP : va_P (dC, dI) CL [(a0, .inr (5, [.null, .int 0])), (q_1, .inl (k_2, 4, .inr (.inl (fun _ => 0))))] H := hP
  have hD : va_D A [(a0, .inr (5, [.null, .int 0])), (q_1, .inl (k_2, 4, .inr (.inl (fun _ => 0))))] := hD
  refine W.widen (k := 1) (n := 4) (Nat.le_of_ble_eq_true rfl) (Nat.le_of_ble_eq_true rfl) ?_
  refine va_putF (D := (dC, dI)) (ci := 5) (v := .ref q_1) (ty := .array .long) (C := RX5) (T := TX5) (N := 2) hx hb hts iwX5 tyX5 tyX5_ok nmX5 hown hK hP hD hS 0 rfl rfl 0 (by decide) (hts _ mw_142) (fun _ h9 => h9) rfl hin rfl (by decide +kernel) rfl rfl (Nat.le_of_ble_eq_true rfl) dX5_init_17 (fun H locs hP hD hS => ?_)
  have hP : va_P (dC, dI) CL [(a0, .inr (5, [.ref q_1, .int 0])), (q_1, .inl (k_2, 4, .inr (.inl (fun _ => 0))))] H := hP
  have hD : va_D A [(a0, .inr (5, [.ref q_1, .int 0])), (q_1, .inl (k_2, 4, .inr (.inl (fun _ => 0))))] := hD
  refine W.widen (k := 1) (n := 4) (Nat.le_of_ble_eq_true rfl) (Nat.le_of_ble_eq_true rfl) ?_
  have hP9 := hP.sub (ws' := [(a0, .inr (5, [.ref q_1, .int 0]))]) [0] rfl
  have hD9 := hD.sub (ws' := [(a0, .inr (5, [.ref q_1, .int 0]))]) [0] (by decide) rfl
  have hK9 := hK.sub (tys' := []) [] rfl
  exact W.vret hx hb hr (fun t ht hW => ⟨⟨(), rfl, trivial, q_1, by rw [ht]; exact hP9, va_K.moved hW.alike hK9, hD9⟩, hS.F ht⟩) hS.2.2 dX5_init_20
set_option maxHeartbeats 4000000 in
set_option maxRecDepth 100000 in
theorem zX5_init_2 (l : Launch) (dC : Nat → ClassId) (dI : Nat → Nat → Nat) (adK adV : Nat → Nat) (sz : Nat) (a0 : Nat) : Met l yX5_init (Cond.code yX5_init cX5_init 2 none :: TB) ({ frames := 1, cells := 1, slots := 8, locals := 100 }) (XP (dC, dI) adK adV [.ref a0, .int 8] sz [(a0, .inr (5, [.null, .int 0]))] []) (va_Qv (fun _ : Unit => True) (fun _ t => ∃ q_1 : Nat, va_P (dC, dI) CL [(a0, .inr (5, [.ref q_1, .int 0]))] t.heap ∧ va_K (dC, dI) CL [] t ∧ va_D (va_A [(a0, .inr (5, [.null, .int 0]))] sz) [(a0, .inr (5, [.ref q_1, .int 0]))]) (va_A [(a0, .inr (5, [.null, .int 0]))] sz)) 1 8 (va_A [(a0, .inr (5, [.null, .int 0]))] sz) := by
  refine Met.ofW (cc := cX5_init) (maxL := 2) (ret := none) (by decide) rfl ?_
  intro p e s m args below meth c s₁ B hml hv
  obtain ⟨rfl, hsz, hP, hK, hD0, hC⟩ := hv
  have hx := B.exec
  have hb := B.bytes
  have hr := B.returns
  have hts0 := atoms_spec (ws := Cond.code yX5_init cX5_init 2 none :: TB) B.pre
  have hts : ∀ w ∈ TB, w.before _ s = true := fun w h => hts0 w (List.mem_cons_of_mem _ h)
  have hown : s.vm.findClass RX5 = some m.cls := findClass_of_methodNamed B.named
  have hlocks := B.notSynchronized
  have hin : meth.name = "<init>" := (name_of_methodNamed B.named B.method).1
  subst hsz
  have hD := hD0.self (sz := s.heap.size)
  generalize hAe : va_A [(a0, .inr (5, [.null, .int 0]))] s.heap.size = A at hD hC ⊢
  have hA : ∀ q : Nat, s.heap.size ≤ q → A q := fun q h => by rw [← hAe]; exact Or.inr h
  have hl := lv_entry ([.ref a0, .int 8]) (n := 2) (Nat.le_of_ble_eq_true rfl)
  rw [lg_entry_eq]
  generalize (lg_sl ([.ref a0, .int 8]) ++ List.replicate (2 - (lg_sl ([.ref a0, .int 8])).length) Slot.unset).toArray = ls at hl ⊢
  have hl : lv_has ls 2 [(0, .ref a0), (1, .int 8)] := hl
  have hP : va_P (dC, dI) CL [(a0, .inr (5, [.null, .int 0]))] s.heap := hP
  obtain ⟨H, hH⟩ : ∃ z, z = s.heap := ⟨_, rfl⟩
  rw [← hH] at hP ⊢
  have hS : va_S A s.heap H [] := by rw [hH]; exact va_S.rf
  refine lv_aload_n hx hb dX5_init_0 rfl (lv_at hl 0 rfl) ?_
  refine W.objInit hx hb hown (hts _ mw_138) (hts _ mw_125) (hts _ mw_126) rfl (by rw [hml]; exact hl.1) rfl dX5_init_1 (Nat.le_of_ble_eq_true rfl) (Nat.le_of_ble_eq_true rfl) ?_
  refine W.eq (g2 := F0 m 4 ls []) rfl ?_
  refine lv_aload_n hx hb dX5_init_4 rfl (lv_at hl 0 rfl) ?_
  refine lv_iconst (v := 0) hx hb dX5_init_5 (by decide) ?_
  refine va_put (D := (dC, dI)) (ci := 5) (v := .int 0) (ty := .int) (C := RX5) (T := TX5) (N := 2) hx hb hts iwX5 tyX5 tyX5_ok nmX5 hown hK hP hD hS 0 rfl rfl 1 (by decide) (hts _ mw_143) (fun _ h9 => h9) rfl (by decide +kernel) rfl rfl (Nat.le_of_ble_eq_true rfl) dX5_init_6 (fun H locs hP hD hS => ?_)
  have hP : va_P (dC, dI) CL [(a0, .inr (5, [.null, .int 0]))] H := hP
  have hD : va_D A [(a0, .inr (5, [.null, .int 0]))] := hD
  refine lv_aload_n hx hb dX5_init_9 rfl (lv_at hl 0 rfl) ?_
  refine lv_iload_n hx hb dX5_init_10 rfl (lv_at hl 1 rfl) ?_
  refine lv_iconst (v := 0) hx hb dX5_init_11 (by decide) ?_
  refine va_mmax hx hb (by rw [hml]; exact hl.1.symm) hown (hts _ mw_139) (hts _ mw_140) (hts _ mw_102) (hts _ mw_141) (Nat.le_of_ble_eq_true rfl) (Nat.le_of_ble_eq_true rfl) (Nat.le_of_ble_eq_true rfl) (Nat.le_of_ble_eq_true rfl) dX5_init_12 ?_
  refine x_lit 8 (by decide) ?_
  refine va_newa (atype := .long) (n := 8) (N' := 8) (ty := .long) (a0 := (8, .inr (.inl (fun _ => 0)))) hx hb (hts _ mw_156) rfl hK hP hD hS hA (fun _ => rfl) (by decide) (by decide) (by decide) (Nat.le_of_ble_eq_true rfl) (Nat.le_of_ble_eq_true rfl) dX5_init_15 (fun q_1 k_2 H hK hP hD hS => ?_)
  have hK : va_K (dC, dI) CL [(k_2, .long)] s := hK
  have hP : va_P (dC, dI) CL [(a0, .inr (5, [.null, .int 0])), (q_1, .inl (k_2, 8, .inr (.inl (fun _ => 0))))] H := hP
  have hD : va_D A [(a0, .inr (5, [.null, .int 0])), (q_1, .inl (k_2, 8, .inr (.inl (fun _ => 0))))] := hD
  refine W.widen (k := 1) (n := 8) (Nat.le_of_ble_eq_true rfl) (Nat.le_of_ble_eq_true rfl) ?_
  refine va_putF (D := (dC, dI)) (ci := 5) (v := .ref q_1) (ty := .array .long) (C := RX5) (T := TX5) (N := 2) hx hb hts iwX5 tyX5 tyX5_ok nmX5 hown hK hP hD hS 0 rfl rfl 0 (by decide) (hts _ mw_142) (fun _ h9 => h9) rfl hin rfl (by decide +kernel) rfl rfl (Nat.le_of_ble_eq_true rfl) dX5_init_17 (fun H locs hP hD hS => ?_)
  have hP : va_P (dC, dI) CL [(a0, .inr (5, [.ref q_1, .int 0])), (q_1, .inl (k_2, 8, .inr (.inl (fun _ => 0))))] H := hP
  have hD : va_D A [(a0, .inr (5, [.ref q_1, .int 0])), (q_1, .inl (k_2, 8, .inr (.inl (fun _ => 0))))] := hD
  refine W.widen (k := 1) (n := 8) (Nat.le_of_ble_eq_true rfl) (Nat.le_of_ble_eq_true rfl) ?_
  have hP9 := hP.sub (ws' := [(a0, .inr (5, [.ref q_1, .int 0]))]) [0] rfl
  have hD9 := hD.sub (ws' := [(a0, .inr (5, [.ref q_1, .int 0]))]) [0] (by decide) rfl
  have hK9 := hK.sub (tys' := []) [] rfl
  exact W.vret hx hb hr (fun t ht hW => ⟨⟨(), rfl, trivial, q_1, by rw [ht]; exact hP9, va_K.moved hW.alike hK9, hD9⟩, hS.F ht⟩) hS.2.2 dX5_init_20
set_option maxHeartbeats 4000000 in
set_option maxRecDepth 100000 in
theorem zX5_init_3 (l : Launch) (dC : Nat → ClassId) (dI : Nat → Nat → Nat) (adK adV : Nat → Nat) (sz : Nat) (a0 : Nat) : Met l yX5_init (Cond.code yX5_init cX5_init 2 none :: TB) ({ frames := 1, cells := 1, slots := 10, locals := 100 }) (XP (dC, dI) adK adV [.ref a0, .int 10] sz [(a0, .inr (5, [.null, .int 0]))] []) (va_Qv (fun _ : Unit => True) (fun _ t => ∃ q_1 : Nat, va_P (dC, dI) CL [(a0, .inr (5, [.ref q_1, .int 0]))] t.heap ∧ va_K (dC, dI) CL [] t ∧ va_D (va_A [(a0, .inr (5, [.null, .int 0]))] sz) [(a0, .inr (5, [.ref q_1, .int 0]))]) (va_A [(a0, .inr (5, [.null, .int 0]))] sz)) 1 10 (va_A [(a0, .inr (5, [.null, .int 0]))] sz) := by
  refine Met.ofW (cc := cX5_init) (maxL := 2) (ret := none) (by decide) rfl ?_
  intro p e s m args below meth c s₁ B hml hv
  obtain ⟨rfl, hsz, hP, hK, hD0, hC⟩ := hv
  have hx := B.exec
  have hb := B.bytes
  have hr := B.returns
  have hts0 := atoms_spec (ws := Cond.code yX5_init cX5_init 2 none :: TB) B.pre
  have hts : ∀ w ∈ TB, w.before _ s = true := fun w h => hts0 w (List.mem_cons_of_mem _ h)
  have hown : s.vm.findClass RX5 = some m.cls := findClass_of_methodNamed B.named
  have hlocks := B.notSynchronized
  have hin : meth.name = "<init>" := (name_of_methodNamed B.named B.method).1
  subst hsz
  have hD := hD0.self (sz := s.heap.size)
  generalize hAe : va_A [(a0, .inr (5, [.null, .int 0]))] s.heap.size = A at hD hC ⊢
  have hA : ∀ q : Nat, s.heap.size ≤ q → A q := fun q h => by rw [← hAe]; exact Or.inr h
  have hl := lv_entry ([.ref a0, .int 10]) (n := 2) (Nat.le_of_ble_eq_true rfl)
  rw [lg_entry_eq]
  generalize (lg_sl ([.ref a0, .int 10]) ++ List.replicate (2 - (lg_sl ([.ref a0, .int 10])).length) Slot.unset).toArray = ls at hl ⊢
  have hl : lv_has ls 2 [(0, .ref a0), (1, .int 10)] := hl
  have hP : va_P (dC, dI) CL [(a0, .inr (5, [.null, .int 0]))] s.heap := hP
  obtain ⟨H, hH⟩ : ∃ z, z = s.heap := ⟨_, rfl⟩
  rw [← hH] at hP ⊢
  have hS : va_S A s.heap H [] := by rw [hH]; exact va_S.rf
  refine lv_aload_n hx hb dX5_init_0 rfl (lv_at hl 0 rfl) ?_
  refine W.objInit hx hb hown (hts _ mw_138) (hts _ mw_125) (hts _ mw_126) rfl (by rw [hml]; exact hl.1) rfl dX5_init_1 (Nat.le_of_ble_eq_true rfl) (Nat.le_of_ble_eq_true rfl) ?_
  refine W.eq (g2 := F0 m 4 ls []) rfl ?_
  refine lv_aload_n hx hb dX5_init_4 rfl (lv_at hl 0 rfl) ?_
  refine lv_iconst (v := 0) hx hb dX5_init_5 (by decide) ?_
  refine va_put (D := (dC, dI)) (ci := 5) (v := .int 0) (ty := .int) (C := RX5) (T := TX5) (N := 2) hx hb hts iwX5 tyX5 tyX5_ok nmX5 hown hK hP hD hS 0 rfl rfl 1 (by decide) (hts _ mw_143) (fun _ h9 => h9) rfl (by decide +kernel) rfl rfl (Nat.le_of_ble_eq_true rfl) dX5_init_6 (fun H locs hP hD hS => ?_)
  have hP : va_P (dC, dI) CL [(a0, .inr (5, [.null, .int 0]))] H := hP
  have hD : va_D A [(a0, .inr (5, [.null, .int 0]))] := hD
  refine lv_aload_n hx hb dX5_init_9 rfl (lv_at hl 0 rfl) ?_
  refine lv_iload_n hx hb dX5_init_10 rfl (lv_at hl 1 rfl) ?_
  refine lv_iconst (v := 0) hx hb dX5_init_11 (by decide) ?_
  refine va_mmax hx hb (by rw [hml]; exact hl.1.symm) hown (hts _ mw_139) (hts _ mw_140) (hts _ mw_102) (hts _ mw_141) (Nat.le_of_ble_eq_true rfl) (Nat.le_of_ble_eq_true rfl) (Nat.le_of_ble_eq_true rfl) (Nat.le_of_ble_eq_true rfl) dX5_init_12 ?_
  refine x_lit 10 (by decide) ?_
  refine va_newa (atype := .long) (n := 10) (N' := 10) (ty := .long) (a0 := (10, .inr (.inl (fun _ => 0)))) hx hb (hts _ mw_156) rfl hK hP hD hS hA (fun _ => rfl) (by decide) (by decide) (by decide) (Nat.le_of_ble_eq_true rfl) (Nat.le_of_ble_eq_true rfl) dX5_init_15 (fun q_1 k_2 H hK hP hD hS => ?_)
  have hK : va_K (dC, dI) CL [(k_2, .long)] s := hK
  have hP : va_P (dC, dI) CL [(a0, .inr (5, [.null, .int 0])), (q_1, .inl (k_2, 10, .inr (.inl (fun _ => 0))))] H := hP
  have hD : va_D A [(a0, .inr (5, [.null, .int 0])), (q_1, .inl (k_2, 10, .inr (.inl (fun _ => 0))))] := hD
  refine W.widen (k := 1) (n := 10) (Nat.le_of_ble_eq_true rfl) (Nat.le_of_ble_eq_true rfl) ?_
  refine va_putF (D := (dC, dI)) (ci := 5) (v := .ref q_1) (ty := .array .long) (C := RX5) (T := TX5) (N := 2) hx hb hts iwX5 tyX5 tyX5_ok nmX5 hown hK hP hD hS 0 rfl rfl 0 (by decide) (hts _ mw_142) (fun _ h9 => h9) rfl hin rfl (by decide +kernel) rfl rfl (Nat.le_of_ble_eq_true rfl) dX5_init_17 (fun H locs hP hD hS => ?_)
  have hP : va_P (dC, dI) CL [(a0, .inr (5, [.ref q_1, .int 0])), (q_1, .inl (k_2, 10, .inr (.inl (fun _ => 0))))] H := hP
  have hD : va_D A [(a0, .inr (5, [.ref q_1, .int 0])), (q_1, .inl (k_2, 10, .inr (.inl (fun _ => 0))))] := hD
  refine W.widen (k := 1) (n := 10) (Nat.le_of_ble_eq_true rfl) (Nat.le_of_ble_eq_true rfl) ?_
  have hP9 := hP.sub (ws' := [(a0, .inr (5, [.ref q_1, .int 0]))]) [0] rfl
  have hD9 := hD.sub (ws' := [(a0, .inr (5, [.ref q_1, .int 0]))]) [0] (by decide) rfl
  have hK9 := hK.sub (tys' := []) [] rfl
  exact W.vret hx hb hr (fun t ht hW => ⟨⟨(), rfl, trivial, q_1, by rw [ht]; exact hP9, va_K.moved hW.alike hK9, hD9⟩, hS.F ht⟩) hS.2.2 dX5_init_20
set_option maxHeartbeats 4000000 in
set_option maxRecDepth 100000 in
theorem zX3_init (l : Launch) (dC : Nat → ClassId) (dI : Nat → Nat → Nat) (adK adV : Nat → Nat) (sz : Nat) (a0 : Nat) : Met l yX3_init (Cond.code yX3_init cX3_init 1 none :: TB) ({ frames := 1, cells := 2, slots := 300, locals := 100 }) (XP (dC, dI) adK adV [.ref a0] sz [(a0, .inr (3, [.null, .null, .int 0, .int 0]))] []) (va_Qv (fun _ : Unit => True) (fun _ t => ∃ q_1 : Nat, ∃ q_3 : Nat, va_P (dC, dI) CL [(a0, .inr (3, [.ref q_1, .ref q_3, .int 0, .int 0]))] t.heap ∧ va_K (dC, dI) CL [] t ∧ va_D (va_A [(a0, .inr (3, [.null, .null, .int 0, .int 0]))] sz) [(a0, .inr (3, [.ref q_1, .ref q_3, .int 0, .int 0]))]) (va_A [(a0, .inr (3, [.null, .null, .int 0, .int 0]))] sz)) 2 300 (va_A [(a0, .inr (3, [.null, .null, .int 0, .int 0]))] sz) := by
  refine Met.ofW (cc := cX3_init) (maxL := 1) (ret := none) (by decide) rfl ?_
  intro p e s m args below meth c s₁ B hml hv
  obtain ⟨rfl, hsz, hP, hK, hD0, hC⟩ := hv
  have hx := B.exec
  have hb := B.bytes
  have hr := B.returns
  have hts0 := atoms_spec (ws := Cond.code yX3_init cX3_init 1 none :: TB) B.pre
  have hts : ∀ w ∈ TB, w.before _ s = true := fun w h => hts0 w (List.mem_cons_of_mem _ h)
  have hown : s.vm.findClass RX3 = some m.cls := findClass_of_methodNamed B.named
  have hlocks := B.notSynchronized
  have hin : meth.name = "<init>" := (name_of_methodNamed B.named B.method).1
  subst hsz
  have hD := hD0.self (sz := s.heap.size)
  generalize hAe : va_A [(a0, .inr (3, [.null, .null, .int 0, .int 0]))] s.heap.size = A at hD hC ⊢
  have hA : ∀ q : Nat, s.heap.size ≤ q → A q := fun q h => by rw [← hAe]; exact Or.inr h
  have hl := lv_entry ([.ref a0]) (n := 1) (Nat.le_of_ble_eq_true rfl)
  rw [lg_entry_eq]
  generalize (lg_sl ([.ref a0]) ++ List.replicate (1 - (lg_sl ([.ref a0])).length) Slot.unset).toArray = ls at hl ⊢
  have hl : lv_has ls 1 [(0, .ref a0)] := hl
  have hP : va_P (dC, dI) CL [(a0, .inr (3, [.null, .null, .int 0, .int 0]))] s.heap := hP
  obtain ⟨H, hH⟩ : ∃ z, z = s.heap := ⟨_, rfl⟩
  rw [← hH] at hP ⊢
  have hS : va_S A s.heap H [] := by rw [hH]; exact va_S.rf
  refine lv_aload_n hx hb dX3_init_0 rfl (lv_at hl 0 rfl) ?_
  refine W.objInit hx hb hown (hts _ mw_164) (hts _ mw_125) (hts _ mw_126) rfl (by rw [hml]; exact hl.1) rfl dX3_init_1 (Nat.le_of_ble_eq_true rfl) (Nat.le_of_ble_eq_true rfl) ?_
  refine W.eq (g2 := F0 m 4 ls []) rfl ?_
  refine lv_aload_n hx hb dX3_init_4 rfl (lv_at hl 0 rfl) ?_
  refine lv_sipush (v := 270) hx hb dX3_init_5 (by decide) ?_
  refine va_newa (atype := .int) (n := 270) (N' := 270) (ty := .int) (a0 := (270, .inl (fun _ => 0))) hx hb (hts _ mw_155) rfl hK hP hD hS hA (fun _ => rfl) (by decide) (by decide) (by decide) (Nat.le_of_ble_eq_true rfl) (Nat.le_of_ble_eq_true rfl) dX3_init_8 (fun q_1 k_2 H hK hP hD hS => ?_)
  have hK : va_K (dC, dI) CL [(k_2, .int)] s := hK
  have hP : va_P (dC, dI) CL [(a0, .inr (3, [.null, .null, .int 0, .int 0])), (q_1, .inl (k_2, 270, .inl (fun _ => 0)))] H := hP
  have hD : va_D A [(a0, .inr (3, [.null, .null, .int 0, .int 0])), (q_1, .inl (k_2, 270, .inl (fun _ => 0)))] := hD
  refine W.widen (k := 1) (n := 270) (Nat.le_of_ble_eq_true rfl) (Nat.le_of_ble_eq_true rfl) ?_
  refine va_putF (D := (dC, dI)) (ci := 3) (v := .ref q_1) (ty := .array .int) (C := RX3) (T := TX3) (N := 4) hx hb hts iwX3 tyX3 tyX3_ok nmX3 hown hK hP hD hS 0 rfl rfl 0 (by decide) (hts _ mw_165) (fun _ h9 => h9) rfl hin rfl (by decide +kernel) rfl rfl (Nat.le_of_ble_eq_true rfl) dX3_init_10 (fun H locs hP hD hS => ?_)
  have hP : va_P (dC, dI) CL [(a0, .inr (3, [.ref q_1, .null, .int 0, .int 0])), (q_1, .inl (k_2, 270, .inl (fun _ => 0)))] H := hP
  have hD : va_D A [(a0, .inr (3, [.ref q_1, .null, .int 0, .int 0])), (q_1, .inl (k_2, 270, .inl (fun _ => 0)))] := hD
  refine lv_aload_n hx hb dX3_init_13 rfl (lv_at hl 0 rfl) ?_
  refine lv_bipush (v := 30) hx hb dX3_init_14 (by decide) ?_
  refine va_newa (atype := .int) (n := 30) (N' := 30) (ty := .int) (a0 := (30, .inl (fun _ => 0))) hx hb (hts _ mw_155) rfl hK hP hD hS hA (fun _ => rfl) (by decide) (by decide) (by decide) (Nat.le_of_ble_eq_true rfl) (Nat.le_of_ble_eq_true rfl) dX3_init_16 (fun q_3 k_4 H hK hP hD hS => ?_)
  have hK : va_K (dC, dI) CL [(k_2, .int), (k_4, .int)] s := hK
  have hP : va_P (dC, dI) CL [(a0, .inr (3, [.ref q_1, .null, .int 0, .int 0])), (q_1, .inl (k_2, 270, .inl (fun _ => 0))), (q_3, .inl (k_4, 30, .inl (fun _ => 0)))] H := hP
  have hD : va_D A [(a0, .inr (3, [.ref q_1, .null, .int 0, .int 0])), (q_1, .inl (k_2, 270, .inl (fun _ => 0))), (q_3, .inl (k_4, 30, .inl (fun _ => 0)))] := hD
  refine W.widen (k := 2) (n := 300) (Nat.le_of_ble_eq_true rfl) (Nat.le_of_ble_eq_true rfl) ?_
  refine va_putF (D := (dC, dI)) (ci := 3) (v := .ref q_3) (ty := .array .int) (C := RX3) (T := TX3) (N := 4) hx hb hts iwX3 tyX3 tyX3_ok nmX3 hown hK hP hD hS 0 rfl rfl 1 (by decide) (hts _ mw_166) (fun _ h9 => h9) rfl hin rfl (by decide +kernel) rfl rfl (Nat.le_of_ble_eq_true rfl) dX3_init_18 (fun H locs hP hD hS => ?_)
  have hP : va_P (dC, dI) CL [(a0, .inr (3, [.ref q_1, .ref q_3, .int 0, .int 0])), (q_1, .inl (k_2, 270, .inl (fun _ => 0))), (q_3, .inl (k_4, 30, .inl (fun _ => 0)))] H := hP
  have hD : va_D A [(a0, .inr (3, [.ref q_1, .ref q_3, .int 0, .int 0])), (q_1, .inl (k_2, 270, .inl (fun _ => 0))), (q_3, .inl (k_4, 30, .inl (fun _ => 0)))] := hD
  refine lv_aload_n hx hb dX3_init_21 rfl (lv_at hl 0 rfl) ?_
  refine lv_iconst (v := 0) hx hb dX3_init_22 (by decide) ?_
  refine va_put (D := (dC, dI)) (ci := 3) (v := .int 0) (ty := .int) (C := RX3) (T := TX3) (N := 4) hx hb hts iwX3 tyX3 tyX3_ok nmX3 hown hK hP hD hS 0 rfl rfl 2 (by decide) (hts _ mw_167) (fun _ h9 => h9) rfl (by decide +kernel) rfl rfl (Nat.le_of_ble_eq_true rfl) dX3_init_23 (fun H locs hP hD hS => ?_)
  have hP : va_P (dC, dI) CL [(a0, .inr (3, [.ref q_1, .ref q_3, .int 0, .int 0])), (q_1, .inl (k_2, 270, .inl (fun _ => 0))), (q_3, .inl (k_4, 30, .inl (fun _ => 0)))] H := hP
  have hD : va_D A [(a0, .inr (3, [.ref q_1, .ref q_3, .int 0, .int 0])), (q_1, .inl (k_2, 270, .inl (fun _ => 0))), (q_3, .inl (k_4, 30, .inl (fun _ => 0)))] := hD
  refine lv_aload_n hx hb dX3_init_26 rfl (lv_at hl 0 rfl) ?_
  refine lv_iconst (v := 0) hx hb dX3_init_27 (by decide) ?_
  refine va_put (D := (dC, dI)) (ci := 3) (v := .int 0) (ty := .int) (C := RX3) (T := TX3) (N := 4) hx hb hts iwX3 tyX3 tyX3_ok nmX3 hown hK hP hD hS 0 rfl rfl 3 (by decide) (hts _ mw_168) (fun _ h9 => h9) rfl (by decide +kernel) rfl rfl (Nat.le_of_ble_eq_true rfl) dX3_init_28 (fun H locs hP hD hS => ?_)
  have hP : va_P (dC, dI) CL [(a0, .inr (3, [.ref q_1, .ref q_3, .int 0, .int 0])), (q_1, .inl (k_2, 270, .inl (fun _ => 0))), (q_3, .inl (k_4, 30, .inl (fun _ => 0)))] H := hP
  have hD : va_D A [(a0, .inr (3, [.ref q_1, .ref q_3, .int 0, .int 0])), (q_1, .inl (k_2, 270, .inl (fun _ => 0))), (q_3, .inl (k_4, 30, .inl (fun _ => 0)))] := hD
  refine W.widen (k := 2) (n := 300) (Nat.le_of_ble_eq_true rfl) (Nat.le_of_ble_eq_true rfl) ?_
  have hP9 := hP.sub (ws' := [(a0, .inr (3, [.ref q_1, .ref q_3, .int 0, .int 0]))]) [0] rfl
  have hD9 := hD.sub (ws' := [(a0, .inr (3, [.ref q_1, .ref q_3, .int 0, .int 0]))]) [0] (by decide) rfl
  have hK9 := hK.sub (tys' := []) [] rfl
  exact W.vret hx hb hr (fun t ht hW => ⟨⟨(), rfl, trivial, q_1, q_3, by rw [ht]; exact hP9, va_K.moved hW.alike hK9, hD9⟩, hS.F ht⟩) hS.2.2 dX3_init_31
set_option maxHeartbeats 4000000 in
set_option maxRecDepth 100000 in
theorem zX4_init (l : Launch) (dC : Nat → ClassId) (dI : Nat → Nat → Nat) (adK adV : Nat → Nat) (sz : Nat) (a0 : Nat) : Met l yX4_init (Cond.code yX4_init cX4_init 1 none :: TB) ({ frames := 1, cells := 0, slots := 0, locals := 100 }) (XP (dC, dI) adK adV [.ref a0] sz [(a0, .inr (4, [.int 0, .int 0, .int 0, .int 0, .int 0, .int 0]))] []) (va_Qv (fun _ : Unit => True) (fun _ t => va_P (dC, dI) CL [(a0, .inr (4, [.int 0, .int 0, .int 0, .int 0, .int 0, .int 0]))] t.heap ∧ va_K (dC, dI) CL [] t ∧ va_D (va_A [(a0, .inr (4, [.int 0, .int 0, .int 0, .int 0, .int 0, .int 0]))] sz) [(a0, .inr (4, [.int 0, .int 0, .int 0, .int 0, .int 0, .int 0]))]) (va_A [(a0, .inr (4, [.int 0, .int 0, .int 0, .int 0, .int 0, .int 0]))] sz)) 0 0 (va_A [(a0, .inr (4, [.int 0, .int 0, .int 0, .int 0, .int 0, .int 0]))] sz) := by
  refine Met.ofW (cc := cX4_init) (maxL := 1) (ret := none) (by decide) rfl ?_
  intro p e s m args below meth c s₁ B hml hv
  obtain ⟨rfl, hsz, hP, hK, hD0, hC⟩ := hv
  have hx := B.exec
  have hb := B.bytes
  have hr := B.returns
  have hts0 := atoms_spec (ws := Cond.code yX4_init cX4_init 1 none :: TB) B.pre
  have hts : ∀ w ∈ TB, w.before _ s = true := fun w h => hts0 w (List.mem_cons_of_mem _ h)
  have hown : s.vm.findClass RX4 = some m.cls := findClass_of_methodNamed B.named
  have hlocks := B.notSynchronized
  have hin : meth.name = "<init>" := (name_of_methodNamed B.named B.method).1
  subst hsz
  have hD := hD0.self (sz := s.heap.size)
  generalize hAe : va_A [(a0, .inr (4, [.int 0, .int 0, .int 0, .int 0, .int 0, .int 0]))] s.heap.size = A at hD hC ⊢
  have hA : ∀ q : Nat, s.heap.size ≤ q → A q := fun q h => by rw [← hAe]; exact Or.inr h
  have hl := lv_entry ([.ref a0]) (n := 1) (Nat.le_of_ble_eq_true rfl)
  rw [lg_entry_eq]
  generalize (lg_sl ([.ref a0]) ++ List.replicate (1 - (lg_sl ([.ref a0])).length) Slot.unset).toArray = ls at hl ⊢
  have hl : lv_has ls 1 [(0, .ref a0)] := hl
  have hP : va_P (dC, dI) CL [(a0, .inr (4, [.int 0, .int 0, .int 0, .int 0, .int 0, .int 0]))] s.heap := hP
  obtain ⟨H, hH⟩ : ∃ z, z = s.heap := ⟨_, rfl⟩
  rw [← hH] at hP ⊢
  have hS : va_S A s.heap H [] := by rw [hH]; exact va_S.rf
  refine lv_aload_n hx hb dX4_init_0 rfl (lv_at hl 0 rfl) ?_
  refine W.objInit hx hb hown (hts _ mw_185) (hts _ mw_125) (hts _ mw_126) rfl (by rw [hml]; exact hl.1) rfl dX4_init_1 (Nat.le_of_ble_eq_true rfl) (Nat.le_of_ble_eq_true rfl) ?_
  refine W.eq (g2 := F0 m 4 ls []) rfl ?_
  refine lv_aload_n hx hb dX4_init_4 rfl (lv_at hl 0 rfl) ?_
  refine lv_iconst (v := 0) hx hb dX4_init_5 (by decide) ?_
  refine va_put (D := (dC, dI)) (ci := 4) (v := .int 0) (ty := .int) (C := RX4) (T := TX4) (N := 6) hx hb hts iwX4 tyX4 tyX4_ok nmX4 hown hK hP hD hS 0 rfl rfl 0 (by decide) (hts _ mw_186) (fun _ h9 => h9) rfl (by decide +kernel) rfl rfl (Nat.le_of_ble_eq_true rfl) dX4_init_6 (fun H locs hP hD hS => ?_)
  have hP : va_P (dC, dI) CL [(a0, .inr (4, [.int 0, .int 0, .int 0, .int 0, .int 0, .int 0]))] H := hP
  have hD : va_D A [(a0, .inr (4, [.int 0, .int 0, .int 0, .int 0, .int 0, .int 0]))] := hD
  refine lv_aload_n hx hb dX4_init_9 rfl (lv_at hl 0 rfl) ?_
  refine lv_iconst (v := 0) hx hb dX4_init_10 (by decide) ?_
  refine va_put (D := (dC, dI)) (ci := 4) (v := .int 0) (ty := .int) (C := RX4) (T := TX4) (N := 6) hx hb hts iwX4 tyX4 tyX4_ok nmX4 hown hK hP hD hS 0 rfl rfl 1 (by decide) (hts _ mw_190) (fun _ h9 => h9) rfl (by decide +kernel) rfl rfl (Nat.le_of_ble_eq_true rfl) dX4_init_11 (fun H locs hP hD hS => ?_)
  have hP : va_P (dC, dI) CL [(a0, .inr (4, [.int 0, .int 0, .int 0, .int 0, .int 0, .int 0]))] H := hP
  have hD : va_D A [(a0, .inr (4, [.int 0, .int 0, .int 0, .int 0, .int 0, .int 0]))] := hD
  refine lv_aload_n hx hb dX4_init_14 rfl (lv_at hl 0 rfl) ?_
  refine lv_iconst (v := 0) hx hb dX4_init_15 (by decide) ?_
  refine va_put (D := (dC, dI)) (ci := 4) (v := .int 0) (ty := .int) (C := RX4) (T := TX4) (N := 6) hx hb hts iwX4 tyX4 tyX4_ok nmX4 hown hK hP hD hS 0 rfl rfl 2 (by decide) (hts _ mw_194) (fun _ h9 => h9) rfl (by decide +kernel) rfl rfl (Nat.le_of_ble_eq_true rfl) dX4_init_16 (fun H locs hP hD hS => ?_)
  have hP : va_P (dC, dI) CL [(a0, .inr (4, [.int 0, .int 0, .int 0, .int 0, .int 0, .int 0]))] H := hP
  have hD : va_D A [(a0, .inr (4, [.int 0, .int 0, .int 0, .int 0, .int 0, .int 0]))] := hD
  refine lv_aload_n hx hb dX4_init_19 rfl (lv_at hl 0 rfl) ?_
  refine lv_iconst (v := 0) hx hb dX4_init_20 (by decide) ?_
  refine va_put (D := (dC, dI)) (ci := 4) (v := .int 0) (ty := .int) (C := RX4) (T := TX4) (N := 6) hx hb hts iwX4 tyX4 tyX4_ok nmX4 hown hK hP hD hS 0 rfl rfl 3 (by decide) (hts _ mw_197) (fun _ h9 => h9) rfl (by decide +kernel) rfl rfl (Nat.le_of_ble_eq_true rfl) dX4_init_21 (fun H locs hP hD hS => ?_)
  have hP : va_P (dC, dI) CL [(a0, .inr (4, [.int 0, .int 0, .int 0, .int 0, .int 0, .int 0]))] H := hP
  have hD : va_D A [(a0, .inr (4, [.int 0, .int 0, .int 0, .int 0, .int 0, .int 0]))] := hD
  refine lv_aload_n hx hb dX4_init_24 rfl (lv_at hl 0 rfl) ?_
  refine lv_iconst (v := 0) hx hb dX4_init_25 (by decide) ?_
  refine va_put (D := (dC, dI)) (ci := 4) (v := .int 0) (ty := .int) (C := RX4) (T := TX4) (N := 6) hx hb hts iwX4 tyX4 tyX4_ok nmX4 hown hK hP hD hS 0 rfl rfl 4 (by decide) (hts _ mw_201) (fun _ h9 => h9) rfl (by decide +kernel) rfl rfl (Nat.le_of_ble_eq_true rfl) dX4_init_26 (fun H locs hP hD hS => ?_)
  have hP : va_P (dC, dI) CL [(a0, .inr (4, [.int 0, .int 0, .int 0, .int 0, .int 0, .int 0]))] H := hP
  have hD : va_D A [(a0, .inr (4, [.int 0, .int 0, .int 0, .int 0, .int 0, .int 0]))] := hD
  refine lv_aload_n hx hb dX4_init_29 rfl (lv_at hl 0 rfl) ?_
  refine lv_iconst (v := 0) hx hb dX4_init_30 (by decide) ?_
  refine va_put (D := (dC, dI)) (ci := 4) (v := .int 0) (ty := .int) (C := RX4) (T := TX4) (N := 6) hx hb hts iwX4 tyX4 tyX4_ok nmX4 hown hK hP hD hS 0 rfl rfl 5 (by decide) (hts _ mw_205) (fun _ h9 => h9) rfl (by decide +kernel) rfl rfl (Nat.le_of_ble_eq_true rfl) dX4_init_31 (fun H locs hP hD hS => ?_)
  have hP : va_P (dC, dI) CL [(a0, .inr (4, [.int 0, .int 0, .int 0, .int 0, .int 0, .int 0]))] H := hP
  have hD : va_D A [(a0, .inr (4, [.int 0, .int 0, .int 0, .int 0, .int 0, .int 0]))] := hD
  refine W.widen (k := 0) (n := 0) (Nat.le_of_ble_eq_true rfl) (Nat.le_of_ble_eq_true rfl) ?_
  have hP9 := hP.sub (ws' := [(a0, .inr (4, [.int 0, .int 0, .int 0, .int 0, .int 0, .int 0]))]) [0] rfl
  have hD9 := hD.sub (ws' := [(a0, .inr (4, [.int 0, .int 0, .int 0, .int 0, .int 0, .int 0]))]) [0] (by decide) rfl
  have hK9 := hK.sub (tys' := []) [] rfl
  exact W.vret hx hb hr (fun t ht hW => ⟨⟨(), rfl, trivial, by rw [ht]; exact hP9, va_K.moved hW.alike hK9, hD9⟩, hS.F ht⟩) hS.2.2 dX4_init_34
set_option maxHeartbeats 4000000 in
set_option maxRecDepth 100000 in
theorem zX3_clear (l : Launch) (dC : Nat → ClassId) (dI : Nat → Nat → Nat) (adK adV : Nat → Nat) (sz : Nat) (a0 : Nat) (a1 : Nat) (a2 : Nat) : Met l yX3_clear (Cond.code yX3_clear cX3_clear 1 none :: TB) ({ frames := 1, cells := 0, slots := 0, locals := 100 }) (XP (dC, dI) adK adV [.ref a0] sz [(a0, .inr (3, [.ref a1, .ref a2, .int 0, .int 0]))] []) (va_Qv (fun _ : Unit => True) (fun _ t => va_P (dC, dI) CL [(a0, .inr (3, [.ref a1, .ref a2, .int 0, .int 0]))] t.heap ∧ va_K (dC, dI) CL [] t ∧ va_D (va_A [(a0, .inr (3, [.ref a1, .ref a2, .int 0, .int 0]))] sz) [(a0, .inr (3, [.ref a1, .ref a2, .int 0, .int 0]))]) (va_A [(a0, .inr (3, [.ref a1, .ref a2, .int 0, .int 0]))] sz)) 0 0 (va_A [(a0, .inr (3, [.ref a1, .ref a2, .int 0, .int 0]))] sz) := by
  refine Met.ofW (cc := cX3_clear) (maxL := 1) (ret := none) (by decide) rfl ?_
  intro p e s m args below meth c s₁ B hml hv
  obtain ⟨rfl, hsz, hP, hK, hD0, hC⟩ := hv
  have hx := B.exec
  have hb := B.bytes
  have hr := B.returns
  have hts0 := atoms_spec (ws := Cond.code yX3_clear cX3_clear 1 none :: TB) B.pre
  have hts : ∀ w ∈ TB, w.before _ s = true := fun w h => hts0 w (List.mem_cons_of_mem _ h)
  have hown : s.vm.findClass RX3 = some m.cls := findClass_of_methodNamed B.named
  have hlocks := B.notSynchronized
  subst hsz
  have hD := hD0.self (sz := s.heap.size)
  generalize hAe : va_A [(a0, .inr (3, [.ref a1, .ref a2, .int 0, .int 0]))] s.heap.size = A at hD hC ⊢
  have hA : ∀ q : Nat, s.heap.size ≤ q → A q := fun q h => by rw [← hAe]; exact Or.inr h
  have hl := lv_entry ([.ref a0]) (n := 1) (Nat.le_of_ble_eq_true rfl)
  rw [lg_entry_eq]
  generalize (lg_sl ([.ref a0]) ++ List.replicate (1 - (lg_sl ([.ref a0])).length) Slot.unset).toArray = ls at hl ⊢
  have hl : lv_has ls 1 [(0, .ref a0)] := hl
  have hP : va_P (dC, dI) CL [(a0, .inr (3, [.ref a1, .ref a2, .int 0, .int 0]))] s.heap := hP
  obtain ⟨H, hH⟩ : ∃ z, z = s.heap := ⟨_, rfl⟩
  rw [← hH] at hP ⊢
  have hS : va_S A s.heap H [] := by rw [hH]; exact va_S.rf
  refine lv_aload_n hx hb dX3_clear_0 rfl (lv_at hl 0 rfl) ?_
  refine lv_iconst (v := 0) hx hb dX3_clear_1 (by decide) ?_
  refine va_put (D := (dC, dI)) (ci := 3) (v := .int 0) (ty := .int) (C := RX3) (T := TX3) (N := 4) hx hb hts iwX3 tyX3 tyX3_ok nmX3 hown hK hP hD hS 0 rfl rfl 2 (by decide) (hts _ mw_167) (fun _ h9 => h9) rfl (by decide +kernel) rfl rfl (Nat.le_of_ble_eq_true rfl) dX3_clear_2 (fun H locs hP hD hS => ?_)
  have hP : va_P (dC, dI) CL [(a0, .inr (3, [.ref a1, .ref a2, .int 0, .int 0]))] H := hP
  have hD : va_D A [(a0, .inr (3, [.ref a1, .ref a2, .int 0, .int 0]))] := hD
  refine lv_aload_n hx hb dX3_clear_5 rfl (lv_at hl 0 rfl) ?_
  refine lv_iconst (v := 0) hx hb dX3_clear_6 (by decide) ?_
  refine va_put (D := (dC, dI)) (ci := 3) (v := .int 0) (ty := .int) (C := RX3) (T := TX3) (N := 4) hx hb hts iwX3 tyX3 tyX3_ok nmX3 hown hK hP hD hS 0 rfl rfl 3 (by decide) (hts _ mw_168) (fun _ h9 => h9) rfl (by decide +kernel) rfl rfl (Nat.le_of_ble_eq_true rfl) dX3_clear_7 (fun H locs hP hD hS => ?_)
  have hP : va_P (dC, dI) CL [(a0, .inr (3, [.ref a1, .ref a2, .int 0, .int 0]))] H := hP
  have hD : va_D A [(a0, .inr (3, [.ref a1, .ref a2, .int 0, .int 0]))] := hD
  refine W.widen (k := 0) (n := 0) (Nat.le_of_ble_eq_true rfl) (Nat.le_of_ble_eq_true rfl) ?_
  have hP9 := hP.sub (ws' := [(a0, .inr (3, [.ref a1, .ref a2, .int 0, .int 0]))]) [0] rfl
  have hD9 := hD.sub (ws' := [(a0, .inr (3, [.ref a1, .ref a2, .int 0, .int 0]))]) [0] (by decide) rfl
  have hK9 := hK.sub (tys' := []) [] rfl
  exact W.vret hx hb hr (fun t ht hW => ⟨⟨(), rfl, trivial, by rw [ht]; exact hP9, va_K.moved hW.alike hK9, hD9⟩, hS.F ht⟩) hS.2.2 dX3_clear_10
set_option maxHeartbeats 4000000 in
set_option maxRecDepth 100000 in
theorem lpJ7_fill_53178_5 {p : Program} {l : Launch} {e : Env} {s : State} {m : MethodId} {args : Array Value} {below : List Frame} {meth : Method} {c : Code} {Q : State → Prop} {dC : Nat → ClassId} {dI : Nat → Nat → Nat} {adK adV : Nat → Nat} {A : Nat → Prop} {a0 : Nat} {k0 : ClassId} (hx : p.tables.exec = Jvm.exec) (hb : c.code = cJ7_fill_53178) (hml : c.maxLocals = 4) (hown : s.vm.findClass RJ7 = some m.cls) (hts : ∀ w ∈ TB, w.before args s = true) (hC : XC adK adV A s s.heap) (hA : ∀ q : Nat, s.heap.size ≤ q → A q) (hK : va_K (dC, dI) CL [(k0, .int)] s) (kk : ∀ (g0 : Nat → Int32) (H : Heap) (locs : List Loc) (ls : Array Slot), va_P (dC, dI) CL [(a0, .inl (k0, 5, .inl g0))] H → va_D A [(a0, .inl (k0, 5, .inl g0))] → va_S A s.heap H locs → lv_has ls 4 [(3, .int 5), (2, .int 5), (0, .ref a0), (1, .int (-1))] → W p l e (headSpec (Cond.code yJ7_fill_53178 cJ7_fill_53178 4 none :: TB) ({ frames := 1, cells := 0, slots := 0, locals := 100 })).room s m args below meth c H locs 0 0 Q (F0 m 5 ls [])) : ∀ (n i : Nat), i + n = 5 → ∀ (g0 : Nat → Int32) (H : Heap) (locs : List Loc) (ls : Array Slot), va_P (dC, dI) CL [(a0, .inl (k0, 5, .inl g0))] H → va_D A [(a0, .inl (k0, 5, .inl g0))] → va_S A s.heap H locs → lv_has ls 4 [(3, .int 5), (2, .int (nI i)), (0, .ref a0), (1, .int (-1))] → W p l e (headSpec (Cond.code yJ7_fill_53178 cJ7_fill_53178 4 none :: TB) ({ frames := 1, cells := 0, slots := 0, locals := 100 })).room s m args below meth c H locs 0 0 Q (F0 m 5 ls []) := by
  intro n
  induction n with
  | zero =>
    intro i hi g0  H locs ls hP hD hS hl
    have hi : i = 5 := by omega
    subst hi
    exact kk g0  H locs ls hP hD hS hl
  | succ n ih =>
    intro i hi g0  H locs ls hP hD hS hl
    have hlt : i < 5 := by omega
    refine lv_iload_n hx hb dJ7_fill_53178_5 rfl (lv_at hl 1 rfl) ?_
    refine lv_iload_n hx hb dJ7_fill_53178_6 rfl (lv_at hl 0 rfl) ?_
    refine lv_icmp_ge (tgt := 20) hx hb dJ7_fill_53178_7 (by decide) (fun h => absurd h (nI_ge (a := i) (b := 5) hlt (by decide))) (fun _ => ?_)
    refine lv_aload_n hx hb dJ7_fill_53178_10 rfl (lv_at hl 2 rfl) ?_
    refine lv_iload_n hx hb dJ7_fill_53178_11 rfl (lv_at hl 1 rfl) ?_
    refine lv_iload_n hx hb dJ7_fill_53178_12 rfl (lv_at hl 3 rfl) ?_
    refine xh_iast hx hb hK hP hD hS 0 0 rfl rfl (vp_in_nI (by omega) (by decide)) dJ7_fill_53178_13 (fun f_501 H locs hP hD hS => ?_)
    have hP : va_P (dC, dI) CL [(a0, .inl (k0, 5, .inl f_501))] H := hP
    have hD : va_D A [(a0, .inl (k0, 5, .inl f_501))] := hD
    refine lv_iinc (v := (nI (i + 1))) (lv' := [(2, .int (nI (i + 1))), (3, .int 5), (0, .ref a0), (1, .int (-1))]) hx hb dJ7_fill_53178_14 hl (k := 1) rfl (nI_1 _) (by decide) rfl (fun ls hl => ?_)
    refine lv_goto (tgt := 5) hx hb dJ7_fill_53178_17 (by decide) ?_
    exact ih (i + 1) (by omega) f_501 _ _ _ (hP.sub [0] rfl) (hD.sub [0] (by decide) rfl) hS (lv_sub hl [1, 0, 2, 3] rfl)
set_option maxHeartbeats 4000000 in
set_option maxRecDepth 100000 in
theorem zJ7_fill_53178 (l : Launch) (dC : Nat → ClassId) (dI : Nat → Nat → Nat) (adK adV : Nat → Nat) (sz : Nat) (a0 : Nat) (k0 : ClassId) : Met l yJ7_fill_53178 (Cond.code yJ7_fill_53178 cJ7_fill_53178 4 none :: TB) ({ frames := 1, cells := 0, slots := 0, locals := 100 }) (XP (dC, dI) adK adV [.ref a0, .int (-1)] sz [(a0, .inl (k0, 5, .inl (fun _ => 0)))] [(k0, .int)]) (va_Qv (fun _ : Unit => True) (fun _ t => ∃ f_1 : Nat → Int32, va_P (dC, dI) CL [(a0, .inl (k0, 5, .inl f_1))] t.heap ∧ va_K (dC, dI) CL [(k0, .int)] t ∧ va_D (va_A [(a0, .inl (k0, 5, .inl (fun _ => 0)))] sz) [(a0, .inl (k0, 5, .inl f_1))]) (va_A [(a0, .inl (k0, 5, .inl (fun _ => 0)))] sz)) 0 0 (va_A [(a0, .inl (k0, 5, .inl (fun _ => 0)))] sz) := by
  refine Met.ofW (cc := cJ7_fill_53178) (maxL := 4) (ret := none) (by decide) rfl ?_
  intro p e s m args below meth c s₁ B hml hv
  obtain ⟨rfl, hsz, hP, hK, hD0, hC⟩ := hv
  have hx := B.exec
  have hb := B.bytes
  have hr := B.returns
  have hts0 := atoms_spec (ws := Cond.code yJ7_fill_53178 cJ7_fill_53178 4 none :: TB) B.pre
  have hts : ∀ w ∈ TB, w.before _ s = true := fun w h => hts0 w (List.mem_cons_of_mem _ h)
  have hown : s.vm.findClass RJ7 = some m.cls := findClass_of_methodNamed B.named
  have hlocks := B.notSynchronized
  subst hsz
  have hD := hD0.self (sz := s.heap.size)
  generalize hAe : va_A [(a0, .inl (k0, 5, .inl (fun _ => 0)))] s.heap.size = A at hD hC ⊢
  have hA : ∀ q : Nat, s.heap.size ≤ q → A q := fun q h => by rw [← hAe]; exact Or.inr h
  have hl := lv_entry ([.ref a0, .int (-1)]) (n := 4) (Nat.le_of_ble_eq_true rfl)
  rw [lg_entry_eq]
  generalize (lg_sl ([.ref a0, .int (-1)]) ++ List.replicate (4 - (lg_sl ([.ref a0, .int (-1)])).length) Slot.unset).toArray = ls at hl ⊢
  have hl : lv_has ls 4 [(0, .ref a0), (1, .int (-1))] := hl
  have hP : va_P (dC, dI) CL [(a0, .inl (k0, 5, .inl (fun _ => 0)))] s.heap := hP
  obtain ⟨H, hH⟩ : ∃ z, z = s.heap := ⟨_, rfl⟩
  rw [← hH] at hP ⊢
  have hS : va_S A s.heap H [] := by rw [hH]; exact va_S.rf
  refine lv_iconst (v := 0) hx hb dJ7_fill_53178_0 (by decide) ?_
  refine lv_istore_n (lv' := [(2, .int 0), (0, .ref a0), (1, .int (-1))]) hx hb dJ7_fill_53178_1 rfl hl (by decide) rfl (fun ls hl => ?_)
  refine lv_aload_n hx hb dJ7_fill_53178_2 rfl (lv_at hl 1 rfl) ?_
  refine va_alen (v := 5) hx hb hK hP 0 0 rfl rfl rfl dJ7_fill_53178_3 ?_
  refine lv_istore_n (lv' := [(3, .int 5), (2, .int 0), (0, .ref a0), (1, .int (-1))]) hx hb dJ7_fill_53178_4 rfl hl (by decide) rfl (fun ls hl => ?_)
  refine lpJ7_fill_53178_5 hx hb hml hown hts hC hA hK (fun f_1 H locs ls hP hD hS hl => ?_) 5 0 rfl (fun _ => 0) _ _ _ hP hD hS (lv_sub hl [0, 1, 2, 3] rfl)
  have hP : va_P (dC, dI) CL [(a0, .inl (k0, 5, .inl f_1))] H := hP
  have hD : va_D A [(a0, .inl (k0, 5, .inl f_1))] := hD
  have hl : lv_has ls 4 [(3, .int 5), (2, .int 5), (0, .ref a0), (1, .int (-1))] := hl
  refine lv_iload_n hx hb dJ7_fill_53178_5 rfl (lv_at hl 1 rfl) ?_
  refine lv_iload_n hx hb dJ7_fill_53178_6 rfl (lv_at hl 0 rfl) ?_
  refine lv_icmp_ge (tgt := 20) hx hb dJ7_fill_53178_7 (by decide) (fun _ => ?_) (fun h => (h (by decide)).elim)
  refine W.widen (k := 0) (n := 0) (Nat.le_of_ble_eq_true rfl) (Nat.le_of_ble_eq_true rfl) ?_
  have hP9 := hP.sub (ws' := [(a0, .inl (k0, 5, .inl f_1))]) [0] rfl
  have hD9 := hD.sub (ws' := [(a0, .inl (k0, 5, .inl f_1))]) [0] (by decide) rfl
  have hK9 := hK.sub (tys' := [(k0, .int)]) [0] rfl
  exact W.vret hx hb hr (fun t ht hW => ⟨⟨(), rfl, trivial, f_1, by rw [ht]; exact hP9, va_K.moved hW.alike hK9, hD9⟩, hS.F ht⟩) hS.2.2 dJ7_fill_53178_20
set_option maxHeartbeats 4000000 in
set_option maxRecDepth 100000 in
theorem lpJ7_fill_53178_2_5 {p : Program} {l : Launch} {e : Env} {s : State} {m : MethodId} {args : Array Value} {below : List Frame} {meth : Method} {c : Code} {Q : State → Prop} {dC : Nat → ClassId} {dI : Nat → Nat → Nat} {adK adV : Nat → Nat} {A : Nat → Prop} {a0 : Nat} {k0 : ClassId} (hx : p.tables.exec = Jvm.exec) (hb : c.code = cJ7_fill_53178) (hml : c.maxLocals = 4) (hown : s.vm.findClass RJ7 = some m.cls) (hts : ∀ w ∈ TB, w.before args s = true) (hC : XC adK adV A s s.heap) (hA : ∀ q : Nat, s.heap.size ≤ q → A q) (hK : va_K (dC, dI) CL [(k0, .int)] s) (kk : ∀ (g0 : Nat → Int32) (H : Heap) (locs : List Loc) (ls : Array Slot), va_P (dC, dI) CL [(a0, .inl (k0, 160, .inl g0))] H → va_D A [(a0, .inl (k0, 160, .inl g0))] → va_S A s.heap H locs → lv_has ls 4 [(3, .int 160), (2, .int 160), (0, .ref a0), (1, .int (-1))] → W p l e (headSpec (Cond.code yJ7_fill_53178 cJ7_fill_53178 4 none :: TB) ({ frames := 1, cells := 0, slots := 0, locals := 100 })).room s m args below meth c H locs 0 0 Q (F0 m 5 ls [])) : ∀ (n i : Nat), i + n = 160 → ∀ (g0 : Nat → Int32) (H : Heap) (locs : List Loc) (ls : Array Slot), va_P (dC, dI) CL [(a0, .inl (k0, 160, .inl g0))] H → va_D A [(a0, .inl (k0, 160, .inl g0))] → va_S A s.heap H locs → lv_has ls 4 [(3, .int 160), (2, .int (nI i)), (0, .ref a0), (1, .int (-1))] → W p l e (headSpec (Cond.code yJ7_fill_53178 cJ7_fill_53178 4 none :: TB) ({ frames := 1, cells := 0, slots := 0, locals := 100 })).room s m args below meth c H locs 0 0 Q (F0 m 5 ls []) := by
  intro n
  induction n with
  | zero =>
    intro i hi g0  H locs ls hP hD hS hl
    have hi : i = 160 := by omega
    subst hi
    exact kk g0  H locs ls hP hD hS hl
  | succ n ih =>
    intro i hi g0  H locs ls hP hD hS hl
    have hlt : i < 160 := by omega
    refine lv_iload_n hx hb dJ7_fill_53178_5 rfl (lv_at hl 1 rfl) ?_
    refine lv_iload_n hx hb dJ7_fill_53178_6 rfl (lv_at hl 0 rfl) ?_
    refine lv_icmp_ge (tgt := 20) hx hb dJ7_fill_53178_7 (by decide) (fun h => absurd h (nI_ge (a := i) (b := 160) hlt (by decide))) (fun _ => ?_)
    refine lv_aload_n hx hb dJ7_fill_53178_10 rfl (lv_at hl 2 rfl) ?_
    refine lv_iload_n hx hb dJ7_fill_53178_11 rfl (lv_at hl 1 rfl) ?_
    refine lv_iload_n hx hb dJ7_fill_53178_12 rfl (lv_at hl 3 rfl) ?_
    refine xh_iast hx hb hK hP hD hS 0 0 rfl rfl (vp_in_nI (by omega) (by decide)) dJ7_fill_53178_13 (fun f_501 H locs hP hD hS => ?_)
    have hP : va_P (dC, dI) CL [(a0, .inl (k0, 160, .inl f_501))] H := hP
    have hD : va_D A [(a0, .inl (k0, 160, .inl f_501))] := hD
    refine lv_iinc (v := (nI (i + 1))) (lv' := [(2, .int (nI (i + 1))), (3, .int 160), (0, .ref a0), (1, .int (-1))]) hx hb dJ7_fill_53178_14 hl (k := 1) rfl (nI_1 _) (by decide) rfl (fun ls hl => ?_)
    refine lv_goto (tgt := 5) hx hb dJ7_fill_53178_17 (by decide) ?_
    exact ih (i + 1) (by omega) f_501 _ _ _ (hP.sub [0] rfl) (hD.sub [0] (by decide) rfl) hS (lv_sub hl [1, 0, 2, 3] rfl)
set_option maxHeartbeats 4000000 in
set_option maxRecDepth 100000 in
theorem zJ7_fill_53178_2 (l : Launch) (dC : Nat → ClassId) (dI : Nat → Nat → Nat) (adK adV : Nat → Nat) (sz : Nat) (a0 : Nat) (k0 : ClassId) (f0 : Nat → Int32) : Met l yJ7_fill_53178 (Cond.code yJ7_fill_53178 cJ7_fill_53178 4 none :: TB) ({ frames := 1, cells := 0, slots := 0, locals := 100 }) (XP (dC, dI) adK adV [.ref a0, .int (-1)] sz [(a0, .inl (k0, 160, .inl f0))] [(k0, .int)]) (va_Qv (fun _ : Unit => True) (fun _ t => ∃ f_1 : Nat → Int32, va_P (dC, dI) CL [(a0, .inl (k0, 160, .inl f_1))] t.heap ∧ va_K (dC, dI) CL [(k0, .int)] t ∧ va_D (va_A [(a0, .inl (k0, 160, .inl f0))] sz) [(a0, .inl (k0, 160, .inl f_1))]) (va_A [(a0, .inl (k0, 160, .inl f0))] sz)) 0 0 (va_A [(a0, .inl (k0, 160, .inl f0))] sz) := by
  refine Met.ofW (cc := cJ7_fill_53178) (maxL := 4) (ret := none) (by decide) rfl ?_
  intro p e s m args below meth c s₁ B hml hv
  obtain ⟨rfl, hsz, hP, hK, hD0, hC⟩ := hv
  have hx := B.exec
  have hb := B.bytes
  have hr := B.returns
  have hts0 := atoms_spec (ws := Cond.code yJ7_fill_53178 cJ7_fill_53178 4 none :: TB) B.pre
  have hts : ∀ w ∈ TB, w.before _ s = true := fun w h => hts0 w (List.mem_cons_of_mem _ h)
  have hown : s.vm.findClass RJ7 = some m.cls := findClass_of_methodNamed B.named
  have hlocks := B.notSynchronized
  subst hsz
  have hD := hD0.self (sz := s.heap.size)
  generalize hAe : va_A [(a0, .inl (k0, 160, .inl f0))] s.heap.size = A at hD hC ⊢
  have hA : ∀ q : Nat, s.heap.size ≤ q → A q := fun q h => by rw [← hAe]; exact Or.inr h
  have hl := lv_entry ([.ref a0, .int (-1)]) (n := 4) (Nat.le_of_ble_eq_true rfl)
  rw [lg_entry_eq]
  generalize (lg_sl ([.ref a0, .int (-1)]) ++ List.replicate (4 - (lg_sl ([.ref a0, .int (-1)])).length) Slot.unset).toArray = ls at hl ⊢
  have hl : lv_has ls 4 [(0, .ref a0), (1, .int (-1))] := hl
  have hP : va_P (dC, dI) CL [(a0, .inl (k0, 160, .inl f0))] s.heap := hP
  obtain ⟨H, hH⟩ : ∃ z, z = s.heap := ⟨_, rfl⟩
  rw [← hH] at hP ⊢
  have hS : va_S A s.heap H [] := by rw [hH]; exact va_S.rf
  refine lv_iconst (v := 0) hx hb dJ7_fill_53178_0 (by decide) ?_
  refine lv_istore_n (lv' := [(2, .int 0), (0, .ref a0), (1, .int (-1))]) hx hb dJ7_fill_53178_1 rfl hl (by decide) rfl (fun ls hl => ?_)
  refine lv_aload_n hx hb dJ7_fill_53178_2 rfl (lv_at hl 1 rfl) ?_
  refine va_alen (v := 160) hx hb hK hP 0 0 rfl rfl rfl dJ7_fill_53178_3 ?_
  refine lv_istore_n (lv' := [(3, .int 160), (2, .int 0), (0, .ref a0), (1, .int (-1))]) hx hb dJ7_fill_53178_4 rfl hl (by decide) rfl (fun ls hl => ?_)
  refine lpJ7_fill_53178_2_5 hx hb hml hown hts hC hA hK (fun f_1 H locs ls hP hD hS hl => ?_) 160 0 rfl f0 _ _ _ hP hD hS (lv_sub hl [0, 1, 2, 3] rfl)
  have hP : va_P (dC, dI) CL [(a0, .inl (k0, 160, .inl f_1))] H := hP
  have hD : va_D A [(a0, .inl (k0, 160, .inl f_1))] := hD
  have hl : lv_has ls 4 [(3, .int 160), (2, .int 160), (0, .ref a0), (1, .int (-1))] := hl
  refine lv_iload_n hx hb dJ7_fill_53178_5 rfl (lv_at hl 1 rfl) ?_
  refine lv_iload_n hx hb dJ7_fill_53178_6 rfl (lv_at hl 0 rfl) ?_
  refine lv_icmp_ge (tgt := 20) hx hb dJ7_fill_53178_7 (by decide) (fun _ => ?_) (fun h => (h (by decide)).elim)
  refine W.widen (k := 0) (n := 0) (Nat.le_of_ble_eq_true rfl) (Nat.le_of_ble_eq_true rfl) ?_
  have hP9 := hP.sub (ws' := [(a0, .inl (k0, 160, .inl f_1))]) [0] rfl
  have hD9 := hD.sub (ws' := [(a0, .inl (k0, 160, .inl f_1))]) [0] (by decide) rfl
  have hK9 := hK.sub (tys' := [(k0, .int)]) [0] rfl
  exact W.vret hx hb hr (fun t ht hW => ⟨⟨(), rfl, trivial, f_1, by rw [ht]; exact hP9, va_K.moved hW.alike hK9, hD9⟩, hS.F ht⟩) hS.2.2 dJ7_fill_53178_20
set_option maxHeartbeats 4000000 in
set_option maxRecDepth 100000 in
theorem zX0_clear (l : Launch) (dC : Nat → ClassId) (dI : Nat → Nat → Nat) (adK adV : Nat → Nat) (sz : Nat) (a0 : Nat) (a1 : Nat) (a2 : Nat) (a3 : Nat) (a4 : Nat) (a5 : Nat) (a6 : Nat) (a7 : Nat) (k0 : ClassId) (a8 : Nat) (a9 : Nat) (a10 : Nat) (k1 : ClassId) (f0 : Nat → Int32) (a11 : Nat) (a12 : Nat) : Met l yX0_clear (Cond.code yX0_clear cX0_clear 1 none :: TB) ({ frames := 2, cells := 0, slots := 0, locals := 123 }) (XP (dC, dI) adK adV [.ref a0] sz [(a0, .inr (0, [.int 0, .int 0, .int 0, .int 0, .int 0, .int 0, .long 0, .ref a1, .ref a2, .ref a3, .ref a4, .ref a5, .ref a6, .ref a7])), (a1, .inl (k0, 5, .inl (fun _ => 0))), (a2, .inr (5, [.ref a8, .int 0])), (a3, .inr (5, [.ref a9, .int 0])), (a4, .inr (5, [.ref a10, .int 0])), (a5, .inl (k1, 160, .inl f0)), (a7, .inr (3, [.ref a11, .ref a12, .int 0, .int 0]))] [(k0, .int), (k1, .int)]) (va_Qv (fun _ : Unit => True) (fun _ t => ∃ f_3 : Nat → Int32, ∃ f_5 : Nat → Int32, va_P (dC, dI) CL [(a0, .inr (0, [.int 0, .int 0, .int 0, .int 0, .int 0, .int 0, .long 0, .ref a1, .ref a2, .ref a3, .ref a4, .ref a5, .ref a6, .ref a7])), (a2, .inr (5, [.ref a8, .int 0])), (a3, .inr (5, [.ref a9, .int 0])), (a4, .inr (5, [.ref a10, .int 0])), (a7, .inr (3, [.ref a11, .ref a12, .int 0, .int 0])), (a1, .inl (k0, 5, .inl f_3)), (a5, .inl (k1, 160, .inl f_5))] t.heap ∧ va_K (dC, dI) CL [(k0, .int), (k1, .int)] t ∧ va_D (va_A [(a0, .inr (0, [.int 0, .int 0, .int 0, .int 0, .int 0, .int 0, .long 0, .ref a1, .ref a2, .ref a3, .ref a4, .ref a5, .ref a6, .ref a7])), (a1, .inl (k0, 5, .inl (fun _ => 0))), (a2, .inr (5, [.ref a8, .int 0])), (a3, .inr (5, [.ref a9, .int 0])), (a4, .inr (5, [.ref a10, .int 0])), (a5, .inl (k1, 160, .inl f0)), (a7, .inr (3, [.ref a11, .ref a12, .int 0, .int 0]))] sz) [(a0, .inr (0, [.int 0, .int 0, .int 0, .int 0, .int 0, .int 0, .long 0, .ref a1, .ref a2, .ref a3, .ref a4, .ref a5, .ref a6, .ref a7])), (a2, .inr (5, [.ref a8, .int 0])), (a3, .inr (5, [.ref a9, .int 0])), (a4, .inr (5, [.ref a10, .int 0])), (a7, .inr (3, [.ref a11, .ref a12, .int 0, .int 0])), (a1, .inl (k0, 5, .inl f_3)), (a5, .inl (k1, 160, .inl f_5))]) (va_A [(a0, .inr (0, [.int 0, .int 0, .int 0, .int 0, .int 0, .int 0, .long 0, .ref a1, .ref a2, .ref a3, .ref a4, .ref a5, .ref a6, .ref a7])), (a1, .inl (k0, 5, .inl (fun _ => 0))), (a2, .inr (5, [.ref a8, .int 0])), (a3, .inr (5, [.ref a9, .int 0])), (a4, .inr (5, [.ref a10, .int 0])), (a5, .inl (k1, 160, .inl f0)), (a7, .inr (3, [.ref a11, .ref a12, .int 0, .int 0]))] sz)) 0 0 (va_A [(a0, .inr (0, [.int 0, .int 0, .int 0, .int 0, .int 0, .int 0, .long 0, .ref a1, .ref a2, .ref a3, .ref a4, .ref a5, .ref a6, .ref a7])), (a1, .inl (k0, 5, .inl (fun _ => 0))), (a2, .inr (5, [.ref a8, .int 0])), (a3, .inr (5, [.ref a9, .int 0])), (a4, .inr (5, [.ref a10, .int 0])), (a5, .inl (k1, 160, .inl f0)), (a7, .inr (3, [.ref a11, .ref a12, .int 0, .int 0]))] sz) := by
  refine Met.ofW (cc := cX0_clear) (maxL := 1) (ret := none) (by decide) rfl ?_
  intro p e s m args below meth c s₁ B hml hv
  obtain ⟨rfl, hsz, hP, hK, hD0, hC⟩ := hv
  have hx := B.exec
  have hb := B.bytes
  have hr := B.returns
  have hts0 := atoms_spec (ws := Cond.code yX0_clear cX0_clear 1 none :: TB) B.pre
  have hts : ∀ w ∈ TB, w.before _ s = true := fun w h => hts0 w (List.mem_cons_of_mem _ h)
  have hown : s.vm.findClass RX0 = some m.cls := findClass_of_methodNamed B.named
  have hlocks := B.notSynchronized
  subst hsz
  have hD := hD0.self (sz := s.heap.size)
  generalize hAe : va_A [(a0, .inr (0, [.int 0, .int 0, .int 0, .int 0, .int 0, .int 0, .long 0, .ref a1, .ref a2, .ref a3, .ref a4, .ref a5, .ref a6, .ref a7])), (a1, .inl (k0, 5, .inl (fun _ => 0))), (a2, .inr (5, [.ref a8, .int 0])), (a3, .inr (5, [.ref a9, .int 0])), (a4, .inr (5, [.ref a10, .int 0])), (a5, .inl (k1, 160, .inl f0)), (a7, .inr (3, [.ref a11, .ref a12, .int 0, .int 0]))] s.heap.size = A at hD hC ⊢
  have hA : ∀ q : Nat, s.heap.size ≤ q → A q := fun q h => by rw [← hAe]; exact Or.inr h
  have hl := lv_entry ([.ref a0]) (n := 1) (Nat.le_of_ble_eq_true rfl)
  rw [lg_entry_eq]
  generalize (lg_sl ([.ref a0]) ++ List.replicate (1 - (lg_sl ([.ref a0])).length) Slot.unset).toArray = ls at hl ⊢
  have hl : lv_has ls 1 [(0, .ref a0)] := hl
  have hP : va_P (dC, dI) CL [(a0, .inr (0, [.int 0, .int 0, .int 0, .int 0, .int 0, .int 0, .long 0, .ref a1, .ref a2, .ref a3, .ref a4, .ref a5, .ref a6, .ref a7])), (a1, .inl (k0, 5, .inl (fun _ => 0))), (a2, .inr (5, [.ref a8, .int 0])), (a3, .inr (5, [.ref a9, .int 0])), (a4, .inr (5, [.ref a10, .int 0])), (a5, .inl (k1, 160, .inl f0)), (a7, .inr (3, [.ref a11, .ref a12, .int 0, .int 0]))] s.heap := hP
  obtain ⟨H, hH⟩ : ∃ z, z = s.heap := ⟨_, rfl⟩
  rw [← hH] at hP ⊢
  have hS : va_S A s.heap H [] := by rw [hH]; exact va_S.rf
  refine lv_aload_n hx hb dX0_clear_0 rfl (lv_at hl 0 rfl) ?_
  refine lv_iconst (v := 0) hx hb dX0_clear_1 (by decide) ?_
  refine va_put (D := (dC, dI)) (ci := 0) (v := .int 0) (ty := .int) (C := RX0) (T := TX0) (N := 14) hx hb hts iwX0 tyX0 tyX0_ok nmX0 hown hK hP hD hS 0 rfl rfl 0 (by decide) (hts _ mw_234) (fun _ h9 => h9) rfl (by decide +kernel) rfl rfl (Nat.le_of_ble_eq_true rfl) dX0_clear_2 (fun H locs hP hD hS => ?_)
  have hP : va_P (dC, dI) CL [(a0, .inr (0, [.int 0, .int 0, .int 0, .int 0, .int 0, .int 0, .long 0, .ref a1, .ref a2, .ref a3, .ref a4, .ref a5, .ref a6, .ref a7])), (a1, .inl (k0, 5, .inl (fun _ => 0))), (a2, .inr (5, [.ref a8, .int 0])), (a3, .inr (5, [.ref a9, .int 0])), (a4, .inr (5, [.ref a10, .int 0])), (a5, .inl (k1, 160, .inl f0)), (a7, .inr (3, [.ref a11, .ref a12, .int 0, .int 0]))] H := hP
  have hD : va_D A [(a0, .inr (0, [.int 0, .int 0, .int 0, .int 0, .int 0, .int 0, .long 0, .ref a1, .ref a2, .ref a3, .ref a4, .ref a5, .ref a6, .ref a7])), (a1, .inl (k0, 5, .inl (fun _ => 0))), (a2, .inr (5, [.ref a8, .int 0])), (a3, .inr (5, [.ref a9, .int 0])), (a4, .inr (5, [.ref a10, .int 0])), (a5, .inl (k1, 160, .inl f0)), (a7, .inr (3, [.ref a11, .ref a12, .int 0, .int 0]))] := hD
  refine lv_aload_n hx hb dX0_clear_5 rfl (lv_at hl 0 rfl) ?_
  refine lv_iconst (v := 0) hx hb dX0_clear_6 (by decide) ?_
  refine va_put (D := (dC, dI)) (ci := 0) (v := .int 0) (ty := .int) (C := RX0) (T := TX0) (N := 14) hx hb hts iwX0 tyX0 tyX0_ok nmX0 hown hK hP hD hS 0 rfl rfl 1 (by decide) (hts _ mw_238) (fun _ h9 => h9) rfl (by decide +kernel) rfl rfl (Nat.le_of_ble_eq_true rfl) dX0_clear_7 (fun H locs hP hD hS => ?_)
  have hP : va_P (dC, dI) CL [(a0, .inr (0, [.int 0, .int 0, .int 0, .int 0, .int 0, .int 0, .long 0, .ref a1, .ref a2, .ref a3, .ref a4, .ref a5, .ref a6, .ref a7])), (a1, .inl (k0, 5, .inl (fun _ => 0))), (a2, .inr (5, [.ref a8, .int 0])), (a3, .inr (5, [.ref a9, .int 0])), (a4, .inr (5, [.ref a10, .int 0])), (a5, .inl (k1, 160, .inl f0)), (a7, .inr (3, [.ref a11, .ref a12, .int 0, .int 0]))] H := hP
  have hD : va_D A [(a0, .inr (0, [.int 0, .int 0, .int 0, .int 0, .int 0, .int 0, .long 0, .ref a1, .ref a2, .ref a3, .ref a4, .ref a5, .ref a6, .ref a7])), (a1, .inl (k0, 5, .inl (fun _ => 0))), (a2, .inr (5, [.ref a8, .int 0])), (a3, .inr (5, [.ref a9, .int 0])), (a4, .inr (5, [.ref a10, .int 0])), (a5, .inl (k1, 160, .inl f0)), (a7, .inr (3, [.ref a11, .ref a12, .int 0, .int 0]))] := hD
  refine lv_aload_n hx hb dX0_clear_10 rfl (lv_at hl 0 rfl) ?_
  refine lv_iconst (v := 0) hx hb dX0_clear_11 (by decide) ?_
  refine va_put (D := (dC, dI)) (ci := 0) (v := .int 0) (ty := .int) (C := RX0) (T := TX0) (N := 14) hx hb hts iwX0 tyX0 tyX0_ok nmX0 hown hK hP hD hS 0 rfl rfl 2 (by decide) (hts _ mw_242) (fun _ h9 => h9) rfl (by decide +kernel) rfl rfl (Nat.le_of_ble_eq_true rfl) dX0_clear_12 (fun H locs hP hD hS => ?_)
  have hP : va_P (dC, dI) CL [(a0, .inr (0, [.int 0, .int 0, .int 0, .int 0, .int 0, .int 0, .long 0, .ref a1, .ref a2, .ref a3, .ref a4, .ref a5, .ref a6, .ref a7])), (a1, .inl (k0, 5, .inl (fun _ => 0))), (a2, .inr (5, [.ref a8, .int 0])), (a3, .inr (5, [.ref a9, .int 0])), (a4, .inr (5, [.ref a10, .int 0])), (a5, .inl (k1, 160, .inl f0)), (a7, .inr (3, [.ref a11, .ref a12, .int 0, .int 0]))] H := hP
  have hD : va_D A [(a0, .inr (0, [.int 0, .int 0, .int 0, .int 0, .int 0, .int 0, .long 0, .ref a1, .ref a2, .ref a3, .ref a4, .ref a5, .ref a6, .ref a7])), (a1, .inl (k0, 5, .inl (fun _ => 0))), (a2, .inr (5, [.ref a8, .int 0])), (a3, .inr (5, [.ref a9, .int 0])), (a4, .inr (5, [.ref a10, .int 0])), (a5, .inl (k1, 160, .inl f0)), (a7, .inr (3, [.ref a11, .ref a12, .int 0, .int 0]))] := hD
  refine lv_aload_n hx hb dX0_clear_15 rfl (lv_at hl 0 rfl) ?_
  refine lv_iconst (v := 0) hx hb dX0_clear_16 (by decide) ?_
  refine va_put (D := (dC, dI)) (ci := 0) (v := .int 0) (ty := .int) (C := RX0) (T := TX0) (N := 14) hx hb hts iwX0 tyX0 tyX0_ok nmX0 hown hK hP hD hS 0 rfl rfl 3 (by decide) (hts _ mw_246) (fun _ h9 => h9) rfl (by decide +kernel) rfl rfl (Nat.le_of_ble_eq_true rfl) dX0_clear_17 (fun H locs hP hD hS => ?_)
  have hP : va_P (dC, dI) CL [(a0, .inr (0, [.int 0, .int 0, .int 0, .int 0, .int 0, .int 0, .long 0, .ref a1, .ref a2, .ref a3, .ref a4, .ref a5, .ref a6, .ref a7])), (a1, .inl (k0, 5, .inl (fun _ => 0))), (a2, .inr (5, [.ref a8, .int 0])), (a3, .inr (5, [.ref a9, .int 0])), (a4, .inr (5, [.ref a10, .int 0])), (a5, .inl (k1, 160, .inl f0)), (a7, .inr (3, [.ref a11, .ref a12, .int 0, .int 0]))] H := hP
  have hD : va_D A [(a0, .inr (0, [.int 0, .int 0, .int 0, .int 0, .int 0, .int 0, .long 0, .ref a1, .ref a2, .ref a3, .ref a4, .ref a5, .ref a6, .ref a7])), (a1, .inl (k0, 5, .inl (fun _ => 0))), (a2, .inr (5, [.ref a8, .int 0])), (a3, .inr (5, [.ref a9, .int 0])), (a4, .inr (5, [.ref a10, .int 0])), (a5, .inl (k1, 160, .inl f0)), (a7, .inr (3, [.ref a11, .ref a12, .int 0, .int 0]))] := hD
  refine lv_aload_n hx hb dX0_clear_20 rfl (lv_at hl 0 rfl) ?_
  refine lv_iconst (v := 0) hx hb dX0_clear_21 (by decide) ?_
  refine va_put (D := (dC, dI)) (ci := 0) (v := .int 0) (ty := .int) (C := RX0) (T := TX0) (N := 14) hx hb hts iwX0 tyX0 tyX0_ok nmX0 hown hK hP hD hS 0 rfl rfl 4 (by decide) (hts _ mw_250) (fun _ h9 => h9) rfl (by decide +kernel) rfl rfl (Nat.le_of_ble_eq_true rfl) dX0_clear_22 (fun H locs hP hD hS => ?_)
  have hP : va_P (dC, dI) CL [(a0, .inr (0, [.int 0, .int 0, .int 0, .int 0, .int 0, .int 0, .long 0, .ref a1, .ref a2, .ref a3, .ref a4, .ref a5, .ref a6, .ref a7])), (a1, .inl (k0, 5, .inl (fun _ => 0))), (a2, .inr (5, [.ref a8, .int 0])), (a3, .inr (5, [.ref a9, .int 0])), (a4, .inr (5, [.ref a10, .int 0])), (a5, .inl (k1, 160, .inl f0)), (a7, .inr (3, [.ref a11, .ref a12, .int 0, .int 0]))] H := hP
  have hD : va_D A [(a0, .inr (0, [.int 0, .int 0, .int 0, .int 0, .int 0, .int 0, .long 0, .ref a1, .ref a2, .ref a3, .ref a4, .ref a5, .ref a6, .ref a7])), (a1, .inl (k0, 5, .inl (fun _ => 0))), (a2, .inr (5, [.ref a8, .int 0])), (a3, .inr (5, [.ref a9, .int 0])), (a4, .inr (5, [.ref a10, .int 0])), (a5, .inl (k1, 160, .inl f0)), (a7, .inr (3, [.ref a11, .ref a12, .int 0, .int 0]))] := hD
  refine lv_aload_n hx hb dX0_clear_25 rfl (lv_at hl 0 rfl) ?_
  refine lv_iconst (v := 0) hx hb dX0_clear_26 (by decide) ?_
  refine va_put (D := (dC, dI)) (ci := 0) (v := .int 0) (ty := .int) (C := RX0) (T := TX0) (N := 14) hx hb hts iwX0 tyX0 tyX0_ok nmX0 hown hK hP hD hS 0 rfl rfl 5 (by decide) (hts _ mw_252) (fun _ h9 => h9) rfl (by decide +kernel) rfl rfl (Nat.le_of_ble_eq_true rfl) dX0_clear_27 (fun H locs hP hD hS => ?_)
  have hP : va_P (dC, dI) CL [(a0, .inr (0, [.int 0, .int 0, .int 0, .int 0, .int 0, .int 0, .long 0, .ref a1, .ref a2, .ref a3, .ref a4, .ref a5, .ref a6, .ref a7])), (a1, .inl (k0, 5, .inl (fun _ => 0))), (a2, .inr (5, [.ref a8, .int 0])), (a3, .inr (5, [.ref a9, .int 0])), (a4, .inr (5, [.ref a10, .int 0])), (a5, .inl (k1, 160, .inl f0)), (a7, .inr (3, [.ref a11, .ref a12, .int 0, .int 0]))] H := hP
  have hD : va_D A [(a0, .inr (0, [.int 0, .int 0, .int 0, .int 0, .int 0, .int 0, .long 0, .ref a1, .ref a2, .ref a3, .ref a4, .ref a5, .ref a6, .ref a7])), (a1, .inl (k0, 5, .inl (fun _ => 0))), (a2, .inr (5, [.ref a8, .int 0])), (a3, .inr (5, [.ref a9, .int 0])), (a4, .inr (5, [.ref a10, .int 0])), (a5, .inl (k1, 160, .inl f0)), (a7, .inr (3, [.ref a11, .ref a12, .int 0, .int 0]))] := hD
  refine lv_aload_n hx hb dX0_clear_30 rfl (lv_at hl 0 rfl) ?_
  refine lv_lconst (v := 0) hx hb dX0_clear_31 (by decide) ?_
  refine va_put (D := (dC, dI)) (ci := 0) (v := .long 0) (ty := .long) (C := RX0) (T := TX0) (N := 14) hx hb hts iwX0 tyX0 tyX0_ok nmX0 hown hK hP hD hS 0 rfl rfl 6 (by decide) (hts _ mw_254) (fun _ h9 => h9) rfl (by decide +kernel) rfl rfl (Nat.le_of_ble_eq_true rfl) dX0_clear_32 (fun H locs hP hD hS => ?_)
  have hP : va_P (dC, dI) CL [(a0, .inr (0, [.int 0, .int 0, .int 0, .int 0, .int 0, .int 0, .long 0, .ref a1, .ref a2, .ref a3, .ref a4, .ref a5, .ref a6, .ref a7])), (a1, .inl (k0, 5, .inl (fun _ => 0))), (a2, .inr (5, [.ref a8, .int 0])), (a3, .inr (5, [.ref a9, .int 0])), (a4, .inr (5, [.ref a10, .int 0])), (a5, .inl (k1, 160, .inl f0)), (a7, .inr (3, [.ref a11, .ref a12, .int 0, .int 0]))] H := hP
  have hD : va_D A [(a0, .inr (0, [.int 0, .int 0, .int 0, .int 0, .int 0, .int 0, .long 0, .ref a1, .ref a2, .ref a3, .ref a4, .ref a5, .ref a6, .ref a7])), (a1, .inl (k0, 5, .inl (fun _ => 0))), (a2, .inr (5, [.ref a8, .int 0])), (a3, .inr (5, [.ref a9, .int 0])), (a4, .inr (5, [.ref a10, .int 0])), (a5, .inl (k1, 160, .inl f0)), (a7, .inr (3, [.ref a11, .ref a12, .int 0, .int 0]))] := hD
  refine lv_aload_n hx hb dX0_clear_35 rfl (lv_at hl 0 rfl) ?_
  refine va_get (D := (dC, dI)) (ci := 0) (v := .ref a2) (C := RX0) (T := TX0) (N := 14) hx hb hts iwX0 hown hK hP 0 rfl rfl 8 (by decide) (hts _ mw_257) (fun _ h9 => h9) rfl dX0_clear_36 ?_
  refine lv_iconst (v := 0) hx hb dX0_clear_39 (by decide) ?_
  refine va_put (D := (dC, dI)) (ci := 5) (v := .int 0) (ty := .int) (C := RX5) (T := TX5) (N := 2) hx hb hts iwX5 tyX5 tyX5_ok nmX5 hown hK hP hD hS 2 rfl rfl 1 (by decide) (hts _ mw_144) (fun _ h9 => h9) rfl (by decide +kernel) rfl rfl (Nat.le_of_ble_eq_true rfl) dX0_clear_40 (fun H locs hP hD hS => ?_)
  have hP : va_P (dC, dI) CL [(a0, .inr (0, [.int 0, .int 0, .int 0, .int 0, .int 0, .int 0, .long 0, .ref a1, .ref a2, .ref a3, .ref a4, .ref a5, .ref a6, .ref a7])), (a1, .inl (k0, 5, .inl (fun _ => 0))), (a2, .inr (5, [.ref a8, .int 0])), (a3, .inr (5, [.ref a9, .int 0])), (a4, .inr (5, [.ref a10, .int 0])), (a5, .inl (k1, 160, .inl f0)), (a7, .inr (3, [.ref a11, .ref a12, .int 0, .int 0]))] H := hP
  have hD : va_D A [(a0, .inr (0, [.int 0, .int 0, .int 0, .int 0, .int 0, .int 0, .long 0, .ref a1, .ref a2, .ref a3, .ref a4, .ref a5, .ref a6, .ref a7])), (a1, .inl (k0, 5, .inl (fun _ => 0))), (a2, .inr (5, [.ref a8, .int 0])), (a3, .inr (5, [.ref a9, .int 0])), (a4, .inr (5, [.ref a10, .int 0])), (a5, .inl (k1, 160, .inl f0)), (a7, .inr (3, [.ref a11, .ref a12, .int 0, .int 0]))] := hD
  refine lv_aload_n hx hb dX0_clear_43 rfl (lv_at hl 0 rfl) ?_
  refine va_get (D := (dC, dI)) (ci := 0) (v := .ref a3) (C := RX0) (T := TX0) (N := 14) hx hb hts iwX0 hown hK hP 0 rfl rfl 9 (by decide) (hts _ mw_260) (fun _ h9 => h9) rfl dX0_clear_44 ?_
  refine lv_iconst (v := 0) hx hb dX0_clear_47 (by decide) ?_
  refine va_put (D := (dC, dI)) (ci := 5) (v := .int 0) (ty := .int) (C := RX5) (T := TX5) (N := 2) hx hb hts iwX5 tyX5 tyX5_ok nmX5 hown hK hP hD hS 3 rfl rfl 1 (by decide) (hts _ mw_144) (fun _ h9 => h9) rfl (by decide +kernel) rfl rfl (Nat.le_of_ble_eq_true rfl) dX0_clear_48 (fun H locs hP hD hS => ?_)
  have hP : va_P (dC, dI) CL [(a0, .inr (0, [.int 0, .int 0, .int 0, .int 0, .int 0, .int 0, .long 0, .ref a1, .ref a2, .ref a3, .ref a4, .ref a5, .ref a6, .ref a7])), (a1, .inl (k0, 5, .inl (fun _ => 0))), (a2, .inr (5, [.ref a8, .int 0])), (a3, .inr (5, [.ref a9, .int 0])), (a4, .inr (5, [.ref a10, .int 0])), (a5, .inl (k1, 160, .inl f0)), (a7, .inr (3, [.ref a11, .ref a12, .int 0, .int 0]))] H := hP
  have hD : va_D A [(a0, .inr (0, [.int 0, .int 0, .int 0, .int 0, .int 0, .int 0, .long 0, .ref a1, .ref a2, .ref a3, .ref a4, .ref a5, .ref a6, .ref a7])), (a1, .inl (k0, 5, .inl (fun _ => 0))), (a2, .inr (5, [.ref a8, .int 0])), (a3, .inr (5, [.ref a9, .int 0])), (a4, .inr (5, [.ref a10, .int 0])), (a5, .inl (k1, 160, .inl f0)), (a7, .inr (3, [.ref a11, .ref a12, .int 0, .int 0]))] := hD
  refine lv_aload_n hx hb dX0_clear_51 rfl (lv_at hl 0 rfl) ?_
  refine va_get (D := (dC, dI)) (ci := 0) (v := .ref a4) (C := RX0) (T := TX0) (N := 14) hx hb hts iwX0 hown hK hP 0 rfl rfl 10 (by decide) (hts _ mw_265) (fun _ h9 => h9) rfl dX0_clear_52 ?_
  refine lv_iconst (v := 0) hx hb dX0_clear_55 (by decide) ?_
  refine va_put (D := (dC, dI)) (ci := 5) (v := .int 0) (ty := .int) (C := RX5) (T := TX5) (N := 2) hx hb hts iwX5 tyX5 tyX5_ok nmX5 hown hK hP hD hS 4 rfl rfl 1 (by decide) (hts _ mw_144) (fun _ h9 => h9) rfl (by decide +kernel) rfl rfl (Nat.le_of_ble_eq_true rfl) dX0_clear_56 (fun H locs hP hD hS => ?_)
  have hP : va_P (dC, dI) CL [(a0, .inr (0, [.int 0, .int 0, .int 0, .int 0, .int 0, .int 0, .long 0, .ref a1, .ref a2, .ref a3, .ref a4, .ref a5, .ref a6, .ref a7])), (a1, .inl (k0, 5, .inl (fun _ => 0))), (a2, .inr (5, [.ref a8, .int 0])), (a3, .inr (5, [.ref a9, .int 0])), (a4, .inr (5, [.ref a10, .int 0])), (a5, .inl (k1, 160, .inl f0)), (a7, .inr (3, [.ref a11, .ref a12, .int 0, .int 0]))] H := hP
  have hD : va_D A [(a0, .inr (0, [.int 0, .int 0, .int 0, .int 0, .int 0, .int 0, .long 0, .ref a1, .ref a2, .ref a3, .ref a4, .ref a5, .ref a6, .ref a7])), (a1, .inl (k0, 5, .inl (fun _ => 0))), (a2, .inr (5, [.ref a8, .int 0])), (a3, .inr (5, [.ref a9, .int 0])), (a4, .inr (5, [.ref a10, .int 0])), (a5, .inl (k1, 160, .inl f0)), (a7, .inr (3, [.ref a11, .ref a12, .int 0, .int 0]))] := hD
  refine lv_aload_n hx hb dX0_clear_59 rfl (lv_at hl 0 rfl) ?_
  refine va_get (D := (dC, dI)) (ci := 0) (v := .ref a7) (C := RX0) (T := TX0) (N := 14) hx hb hts iwX0 hown hK hP 0 rfl rfl 13 (by decide) (hts _ mw_277) (fun _ h9 => h9) rfl dX0_clear_60 ?_
  have hPc := hP.sub (ws' := [(a7, .inr (3, [.ref a11, .ref a12, .int 0, .int 0]))]) [6] rfl
  have hDc := hD.sub (ws' := [(a7, .inr (3, [.ref a11, .ref a12, .int 0, .int 0]))]) [6] (by decide) rfl
  have hKc := hK.sub (tys' := []) [] rfl
  have hFc := va_free (wc := [(a7, .inr (3, [.ref a11, .ref a12, .int 0, .int 0]))]) hD hS hA [6] rfl
  refine va_callv (va_runV (As := []) (rest := []) ⟨hx, hb, hml, hown, hts⟩ (zX3_clear l dC dI adK adV H.size a7 a11 a12) (cwV 0 hts (tb_V mw_227 mw_228 mw_229 mw_103 mw_230) rfl rfl rfl (by decide +kernel) ⟨Nat.le_of_ble_eq_true rfl, Nat.le_of_ble_eq_true rfl⟩) ⟨XB, va_recv hKc hPc (ci := 3) (q0 := 0) rfl rfl, XQ (av := [.ref a7]) hPc hKc hDc hC hS hFc⟩ rfl rfl hl.1 rfl (lv_room (Nat.le_of_ble_eq_true rfl)) dX0_clear_63 ⟨Nat.le_of_ble_eq_true rfl, Nat.le_of_ble_eq_true rfl⟩) hS (fun q _ h => hFc q h) hFc (fun u_9 t H1 locs ht hvm hw hB hz1 hk1 hS => ?_)
  try dsimp only at hw
  obtain ⟨hP1, hK1, hD1⟩ := hB
  rw [ht] at hP1
  have hK1 := va_K.moved hvm.symm hK1
  obtain ⟨hP, hD⟩ := va_join (wr := [(a0, .inr (0, [.int 0, .int 0, .int 0, .int 0, .int 0, .int 0, .long 0, .ref a1, .ref a2, .ref a3, .ref a4, .ref a5, .ref a6, .ref a7])), (a1, .inl (k0, 5, .inl (fun _ => 0))), (a2, .inr (5, [.ref a8, .int 0])), (a3, .inr (5, [.ref a9, .int 0])), (a4, .inr (5, [.ref a10, .int 0])), (a5, .inl (k1, 160, .inl f0))]) (w1 := [(a7, .inr (3, [.ref a11, .ref a12, .int 0, .int 0]))]) hP hD [6] [0, 1, 2, 3, 4, 5] rfl rfl (by decide) (by decide) hk1 hFc hP1 hD1
  have hK := (hK.sub (tys' := [(k0, .int), (k1, .int)]) [0, 1] rfl).app hK1
  generalize H1 = H at hP hS ⊢
  have hP : va_P (dC, dI) CL [(a0, .inr (0, [.int 0, .int 0, .int 0, .int 0, .int 0, .int 0, .long 0, .ref a1, .ref a2, .ref a3, .ref a4, .ref a5, .ref a6, .ref a7])), (a1, .inl (k0, 5, .inl (fun _ => 0))), (a2, .inr (5, [.ref a8, .int 0])), (a3, .inr (5, [.ref a9, .int 0])), (a4, .inr (5, [.ref a10, .int 0])), (a5, .inl (k1, 160, .inl f0)), (a7, .inr (3, [.ref a11, .ref a12, .int 0, .int 0]))] H := hP
  have hD : va_D A [(a0, .inr (0, [.int 0, .int 0, .int 0, .int 0, .int 0, .int 0, .long 0, .ref a1, .ref a2, .ref a3, .ref a4, .ref a5, .ref a6, .ref a7])), (a1, .inl (k0, 5, .inl (fun _ => 0))), (a2, .inr (5, [.ref a8, .int 0])), (a3, .inr (5, [.ref a9, .int 0])), (a4, .inr (5, [.ref a10, .int 0])), (a5, .inl (k1, 160, .inl f0)), (a7, .inr (3, [.ref a11, .ref a12, .int 0, .int 0]))] := hD
  have hK : va_K (dC, dI) CL [(k0, .int), (k1, .int)] s := hK
  refine lv_aload_n hx hb dX0_clear_66 rfl (lv_at hl 0 rfl) ?_
  refine va_get (D := (dC, dI)) (ci := 0) (v := .ref a1) (C := RX0) (T := TX0) (N := 14) hx hb hts iwX0 hown hK hP 0 rfl rfl 7 (by decide) (hts _ mw_255) (fun _ h9 => h9) rfl dX0_clear_67 ?_
  refine lv_iconst (v := (-1)) hx hb dX0_clear_70 (by decide) ?_
  have hPc := hP.sub (ws' := [(a1, .inl (k0, 5, .inl (fun _ => 0)))]) [1] rfl
  have hDc := hD.sub (ws' := [(a1, .inl (k0, 5, .inl (fun _ => 0)))]) [1] (by decide) rfl
  have hKc := hK.sub (tys' := [(k0, .int)]) [0] rfl
  have hFc := va_free (wc := [(a1, .inl (k0, 5, .inl (fun _ => 0)))]) hD hS hA [1] rfl
  refine va_callv (va_runS (As := [.ref a1, .int (-1)]) (rest := []) ⟨hx, hb, hml, hown, hts⟩ (zJ7_fill_53178 l dC dI adK adV H.size a1 k0) (va_cwS 2 hts (tb_S mw_231 mw_232 mw_105 mw_233) rfl rfl rfl (by decide +kernel) ⟨Nat.le_of_ble_eq_true rfl, Nat.le_of_ble_eq_true rfl⟩) ⟨XB, XQ (av := [.ref a1, .int (-1)]) hPc hKc hDc hC hS hFc⟩ rfl rfl hl.1 rfl (lv_room (Nat.le_of_ble_eq_true rfl)) dX0_clear_71 ⟨Nat.le_of_ble_eq_true rfl, Nat.le_of_ble_eq_true rfl⟩) hS (fun q _ h => hFc q h) hFc (fun u_9 t H1 locs ht hvm hw hB hz1 hk1 hS => ?_)
  try dsimp only at hw
  obtain ⟨f_3, hP1, hK1, hD1⟩ := hB
  rw [ht] at hP1
  have hK1 := va_K.moved hvm.symm hK1
  obtain ⟨hP, hD⟩ := va_join (wr := [(a0, .inr (0, [.int 0, .int 0, .int 0, .int 0, .int 0, .int 0, .long 0, .ref a1, .ref a2, .ref a3, .ref a4, .ref a5, .ref a6, .ref a7])), (a2, .inr (5, [.ref a8, .int 0])), (a3, .inr (5, [.ref a9, .int 0])), (a4, .inr (5, [.ref a10, .int 0])), (a5, .inl (k1, 160, .inl f0)), (a7, .inr (3, [.ref a11, .ref a12, .int 0, .int 0]))]) (w1 := [(a1, .inl (k0, 5, .inl f_3))]) hP hD [1] [0, 2, 3, 4, 5, 6] rfl rfl (by decide) (by decide) hk1 hFc hP1 hD1
  have hK := (hK.sub (tys' := [(k1, .int)]) [1] rfl).app hK1
  generalize H1 = H at hP hS ⊢
  have hP : va_P (dC, dI) CL [(a0, .inr (0, [.int 0, .int 0, .int 0, .int 0, .int 0, .int 0, .long 0, .ref a1, .ref a2, .ref a3, .ref a4, .ref a5, .ref a6, .ref a7])), (a2, .inr (5, [.ref a8, .int 0])), (a3, .inr (5, [.ref a9, .int 0])), (a4, .inr (5, [.ref a10, .int 0])), (a5, .inl (k1, 160, .inl f0)), (a7, .inr (3, [.ref a11, .ref a12, .int 0, .int 0])), (a1, .inl (k0, 5, .inl f_3))] H := hP
  have hD : va_D A [(a0, .inr (0, [.int 0, .int 0, .int 0, .int 0, .int 0, .int 0, .long 0, .ref a1, .ref a2, .ref a3, .ref a4, .ref a5, .ref a6, .ref a7])), (a2, .inr (5, [.ref a8, .int 0])), (a3, .inr (5, [.ref a9, .int 0])), (a4, .inr (5, [.ref a10, .int 0])), (a5, .inl (k1, 160, .inl f0)), (a7, .inr (3, [.ref a11, .ref a12, .int 0, .int 0])), (a1, .inl (k0, 5, .inl f_3))] := hD
  have hK : va_K (dC, dI) CL [(k1, .int), (k0, .int)] s := hK
  refine lv_aload_n hx hb dX0_clear_74 rfl (lv_at hl 0 rfl) ?_
  refine va_get (D := (dC, dI)) (ci := 0) (v := .ref a5) (C := RX0) (T := TX0) (N := 14) hx hb hts iwX0 hown hK hP 0 rfl rfl 11 (by decide) (hts _ mw_270) (fun _ h9 => h9) rfl dX0_clear_75 ?_
  refine lv_iconst (v := (-1)) hx hb dX0_clear_78 (by decide) ?_
  have hPc := hP.sub (ws' := [(a5, .inl (k1, 160, .inl f0))]) [4] rfl
  have hDc := hD.sub (ws' := [(a5, .inl (k1, 160, .inl f0))]) [4] (by decide) rfl
  have hKc := hK.sub (tys' := [(k1, .int)]) [0] rfl
  have hFc := va_free (wc := [(a5, .inl (k1, 160, .inl f0))]) hD hS hA [4] rfl
  refine va_callv (va_runS (As := [.ref a5, .int (-1)]) (rest := []) ⟨hx, hb, hml, hown, hts⟩ (zJ7_fill_53178_2 l dC dI adK adV H.size a5 k1 f0) (va_cwS 2 hts (tb_S mw_231 mw_232 mw_105 mw_233) rfl rfl rfl (by decide +kernel) ⟨Nat.le_of_ble_eq_true rfl, Nat.le_of_ble_eq_true rfl⟩) ⟨XB, XQ (av := [.ref a5, .int (-1)]) hPc hKc hDc hC hS hFc⟩ rfl rfl hl.1 rfl (lv_room (Nat.le_of_ble_eq_true rfl)) dX0_clear_79 ⟨Nat.le_of_ble_eq_true rfl, Nat.le_of_ble_eq_true rfl⟩) hS (fun q _ h => hFc q h) hFc (fun u_9 t H1 locs ht hvm hw hB hz1 hk1 hS => ?_)
  try dsimp only at hw
  obtain ⟨f_5, hP1, hK1, hD1⟩ := hB
  rw [ht] at hP1
  have hK1 := va_K.moved hvm.symm hK1
  obtain ⟨hP, hD⟩ := va_join (wr := [(a0, .inr (0, [.int 0, .int 0, .int 0, .int 0, .int 0, .int 0, .long 0, .ref a1, .ref a2, .ref a3, .ref a4, .ref a5, .ref a6, .ref a7])), (a2, .inr (5, [.ref a8, .int 0])), (a3, .inr (5, [.ref a9, .int 0])), (a4, .inr (5, [.ref a10, .int 0])), (a7, .inr (3, [.ref a11, .ref a12, .int 0, .int 0])), (a1, .inl (k0, 5, .inl f_3))]) (w1 := [(a5, .inl (k1, 160, .inl f_5))]) hP hD [4] [0, 1, 2, 3, 5, 6] rfl rfl (by decide) (by decide) hk1 hFc hP1 hD1
  have hK := (hK.sub (tys' := [(k0, .int)]) [1] rfl).app hK1
  generalize H1 = H at hP hS ⊢
  have hP : va_P (dC, dI) CL [(a0, .inr (0, [.int 0, .int 0, .int 0, .int 0, .int 0, .int 0, .long 0, .ref a1, .ref a2, .ref a3, .ref a4, .ref a5, .ref a6, .ref a7])), (a2, .inr (5, [.ref a8, .int 0])), (a3, .inr (5, [.ref a9, .int 0])), (a4, .inr (5, [.ref a10, .int 0])), (a7, .inr (3, [.ref a11, .ref a12, .int 0, .int 0])), (a1, .inl (k0, 5, .inl f_3)), (a5, .inl (k1, 160, .inl f_5))] H := hP
  have hD : va_D A [(a0, .inr (0, [.int 0, .int 0, .int 0, .int 0, .int 0, .int 0, .long 0, .ref a1, .ref a2, .ref a3, .ref a4, .ref a5, .ref a6, .ref a7])), (a2, .inr (5, [.ref a8, .int 0])), (a3, .inr (5, [.ref a9, .int 0])), (a4, .inr (5, [.ref a10, .int 0])), (a7, .inr (3, [.ref a11, .ref a12, .int 0, .int 0])), (a1, .inl (k0, 5, .inl f_3)), (a5, .inl (k1, 160, .inl f_5))] := hD
  have hK : va_K (dC, dI) CL [(k0, .int), (k1, .int)] s := hK
  refine W.widen (k := 0) (n := 0) (Nat.le_of_ble_eq_true rfl) (Nat.le_of_ble_eq_true rfl) ?_
  have hP9 := hP.sub (ws' := [(a0, .inr (0, [.int 0, .int 0, .int 0, .int 0, .int 0, .int 0, .long 0, .ref a1, .ref a2, .ref a3, .ref a4, .ref a5, .ref a6, .ref a7])), (a2, .inr (5, [.ref a8, .int 0])), (a3, .inr (5, [.ref a9, .int 0])), (a4, .inr (5, [.ref a10, .int 0])), (a7, .inr (3, [.ref a11, .ref a12, .int 0, .int 0])), (a1, .inl (k0, 5, .inl f_3)), (a5, .inl (k1, 160, .inl f_5))]) [0, 1, 2, 3, 4, 5, 6] rfl
  have hD9 := hD.sub (ws' := [(a0, .inr (0, [.int 0, .int 0, .int 0, .int 0, .int 0, .int 0, .long 0, .ref a1, .ref a2, .ref a3, .ref a4, .ref a5, .ref a6, .ref a7])), (a2, .inr (5, [.ref a8, .int 0])), (a3, .inr (5, [.ref a9, .int 0])), (a4, .inr (5, [.ref a10, .int 0])), (a7, .inr (3, [.ref a11, .ref a12, .int 0, .int 0])), (a1, .inl (k0, 5, .inl f_3)), (a5, .inl (k1, 160, .inl f_5))]) [0, 1, 2, 3, 4, 5, 6] (by decide) rfl
  have hK9 := hK.sub (tys' := [(k0, .int), (k1, .int)]) [0, 1] rfl
  exact W.vret hx hb hr (fun t ht hW => ⟨⟨(), rfl, trivial, f_3, f_5, by rw [ht]; exact hP9, va_K.moved hW.alike hK9, hD9⟩, hS.F ht⟩) hS.2.2 dX0_clear_82
