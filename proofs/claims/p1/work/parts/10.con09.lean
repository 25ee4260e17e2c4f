set_option maxHeartbeats 4000000 in
set_option maxRecDepth 100000 in
theorem zX0_clear_2 (l : Launch) (dC : Nat → ClassId) (dI : Nat → Nat → Nat) (adK adV : Nat → Nat) (sz : Nat) (a0 : Nat) (a1 : Nat) (a2 : Nat) (a3 : Nat) (a4 : Nat) (a5 : Nat) (a6 : Nat) (a7 : Nat) (a8 : Nat) (a9 : Nat) (a10 : Nat) (a11 : Nat) (a12 : Nat) (k0 : ClassId) (f0 : Nat → Int32) (k1 : ClassId) (f1 : Nat → Int32) : Met l yX0_clear (Cond.code yX0_clear cX0_clear 1 none :: TB) ({ frames := 2, cells := 0, slots := 0, locals := 123 }) (XP (dC, dI) adK adV [.ref a0] sz [(a0, .inr (0, [.int 0, .int 0, .int 0, .int 0, .int 0, .int 0, .long 0, .ref a1, .ref a2, .ref a3, .ref a4, .ref a5, .ref a6, .ref a7])), (a2, .inr (5, [.ref a8, .int 0])), (a3, .inr (5, [.ref a9, .int 0])), (a4, .inr (5, [.ref a10, .int 0])), (a7, .inr (3, [.ref a11, .ref a12, .int 0, .int 0])), (a1, .inl (k0, 5, .inl f0)), (a5, .inl (k1, 160, .inl f1))] [(k0, .int), (k1, .int)]) (va_Qv (fun _ : Unit => True) (fun _ t => ∃ f_3 : Nat → Int32, ∃ f_5 : Nat → Int32, va_P (dC, dI) CL [(a0, .inr (0, [.int 0, .int 0, .int 0, .int 0, .int 0, .int 0, .long 0, .ref a1, .ref a2, .ref a3, .ref a4, .ref a5, .ref a6, .ref a7])), (a2, .inr (5, [.ref a8, .int 0])), (a3, .inr (5, [.ref a9, .int 0])), (a4, .inr (5, [.ref a10, .int 0])), (a7, .inr (3, [.ref a11, .ref a12, .int 0, .int 0])), (a1, .inl (k0, 5, .inl f_3)), (a5, .inl (k1, 160, .inl f_5))] t.heap ∧ va_K (dC, dI) CL [(k0, .int), (k1, .int)] t ∧ va_D (va_A [(a0, .inr (0, [.int 0, .int 0, .int 0, .int 0, .int 0, .int 0, .long 0, .ref a1, .ref a2, .ref a3, .ref a4, .ref a5, .ref a6, .ref a7])), (a2, .inr (5, [.ref a8, .int 0])), (a3, .inr (5, [.ref a9, .int 0])), (a4, .inr (5, [.ref a10, .int 0])), (a7, .inr (3, [.ref a11, .ref a12, .int 0, .int 0])), (a1, .inl (k0, 5, .inl f0)), (a5, .inl (k1, 160, .inl f1))] sz) [(a0, .inr (0, [.int 0, .int 0, .int 0, .int 0, .int 0, .int 0, .long 0, .ref a1, .ref a2, .ref a3, .ref a4, .ref a5, .ref a6, .ref a7])), (a2, .inr (5, [.ref a8, .int 0])), (a3, .inr (5, [.ref a9, .int 0])), (a4, .inr (5, [.ref a10, .int 0])), (a7, .inr (3, [.ref a11, .ref a12, .int 0, .int 0])), (a1, .inl (k0, 5, .inl f_3)), (a5, .inl (k1, 160, .inl f_5))]) (va_A [(a0, .inr (0, [.int 0, .int 0, .int 0, .int 0, .int 0, .int 0, .long 0, .ref a1, .ref a2, .ref a3, .ref a4, .ref a5, .ref a6, .ref a7])), (a2, .inr (5, [.ref a8, .int 0])), (a3, .inr (5, [.ref a9, .int 0])), (a4, .inr (5, [.ref a10, .int 0])), (a7, .inr (3, [.ref a11, .ref a12, .int 0, .int 0])), (a1, .inl (k0, 5, .inl f0)), (a5, .inl (k1, 160, .inl f1))] sz)) 0 0 (va_A [(a0, .inr (0, [.int 0, .int 0, .int 0, .int 0, .int 0, .int 0, .long 0, .ref a1, .ref a2, .ref a3, .ref a4, .ref a5, .ref a6, .ref a7])), (a2, .inr (5, [.ref a8, .int 0])), (a3, .inr (5, [.ref a9, .int 0])), (a4, .inr (5, [.ref a10, .int 0])), (a7, .inr (3, [.ref a11, .ref a12, .int 0, .int 0])), (a1, .inl (k0, 5, .inl f0)), (a5, .inl (k1, 160, .inl f1))] sz) := by
  refine Met.ofW (cc := cX0_clear) (maxL := 1) (ret := none) (by decide) rfl ?_
  intro p e s m args below meth c s₁ B hml hv
  obtain ⟨rfl, hsz, hP, hK, hD0, hC⟩ := hv
  have hx := B.exec
  have hb := B.bytes
  have hr := B.returns
  have hts0 := atoms_spec (ws := Cond.code yX0_clear cX0_clear 1 none :: TB) B.pre
  have hts : ∀ w ∈ TB, w.before _ s = true := fun w h => hts0 w (List.mem_cons_of_mem _ h)
  have hown : s.vm.findClass RX0 = some m.cls := findClass_of_methodNamed B.named
  have hlocks := B.notSynchronized
  subst hsz
  have hD := hD0.self (sz := s.heap.size)
  generalize hAe : va_A [(a0, .inr (0, [.int 0, .int 0, .int 0, .int 0, .int 0, .int 0, .long 0, .ref a1, .ref a2, .ref a3, .ref a4, .ref a5, .ref a6, .ref a7])), (a2, .inr (5, [.ref a8, .int 0])), (a3, .inr (5, [.ref a9, .int 0])), (a4, .inr (5, [.ref a10, .int 0])), (a7, .inr (3, [.ref a11, .ref a12, .int 0, .int 0])), (a1, .inl (k0, 5, .inl f0)), (a5, .inl (k1, 160, .inl f1))] s.heap.size = A at hD hC ⊢
  have hA : ∀ q : Nat, s.heap.size ≤ q → A q := fun q h => by rw [← hAe]; exact Or.inr h
  have hl := lv_entry ([.ref a0]) (n := 1) (Nat.le_of_ble_eq_true rfl)
  rw [lg_entry_eq]
  generalize (lg_sl ([.ref a0]) ++ List.replicate (1 - (lg_sl ([.ref a0])).length) Slot.unset).toArray = ls at hl ⊢
  have hl : lv_has ls 1 [(0, .ref a0)] := hl
  have hP : va_P (dC, dI) CL [(a0, .inr (0, [.int 0, .int 0, .int 0, .int 0, .int 0, .int 0, .long 0, .ref a1, .ref a2, .ref a3, .ref a4, .ref a5, .ref a6, .ref a7])), (a2, .inr (5, [.ref a8, .int 0])), (a3, .inr (5, [.ref a9, .int 0])), (a4, .inr (5, [.ref a10, .int 0])), (a7, .inr (3, [.ref a11, .ref a12, .int 0, .int 0])), (a1, .inl (k0, 5, .inl f0)), (a5, .inl (k1, 160, .inl f1))] s.heap := hP
  obtain ⟨H, hH⟩ : ∃ z, z = s.heap := ⟨_, rfl⟩
  rw [← hH] at hP ⊢
  have hS : va_S A s.heap H [] := by rw [hH]; exact va_S.rf
  refine lv_aload_n hx hb dX0_clear_0 rfl (lv_at hl 0 rfl) ?_
  refine lv_iconst (v := 0) hx hb dX0_clear_1 (by decide) ?_
  refine va_put (D := (dC, dI)) (ci := 0) (v := .int 0) (ty := .int) (C := RX0) (T := TX0) (N := 14) hx hb hts iwX0 tyX0 tyX0_ok nmX0 hown hK hP hD hS 0 rfl rfl 0 (by decide) (hts _ mw_234) (fun _ h9 => h9) rfl (by decide +kernel) rfl rfl (Nat.le_of_ble_eq_true rfl) dX0_clear_2 (fun H locs hP hD hS => ?_)
  have hP : va_P (dC, dI) CL [(a0, .inr (0, [.int 0, .int 0, .int 0, .int 0, .int 0, .int 0, .long 0, .ref a1, .ref a2, .ref a3, .ref a4, .ref a5, .ref a6, .ref a7])), (a2, .inr (5, [.ref a8, .int 0])), (a3, .inr (5, [.ref a9, .int 0])), (a4, .inr (5, [.ref a10, .int 0])), (a7, .inr (3, [.ref a11, .ref a12, .int 0, .int 0])), (a1, .inl (k0, 5, .inl f0)), (a5, .inl (k1, 160, .inl f1))] H := hP
  have hD : va_D A [(a0, .inr (0, [.int 0, .int 0, .int 0, .int 0, .int 0, .int 0, .long 0, .ref a1, .ref a2, .ref a3, .ref a4, .ref a5, .ref a6, .ref a7])), (a2, .inr (5, [.ref a8, .int 0])), (a3, .inr (5, [.ref a9, .int 0])), (a4, .inr (5, [.ref a10, .int 0])), (a7, .inr (3, [.ref a11, .ref a12, .int 0, .int 0])), (a1, .inl (k0, 5, .inl f0)), (a5, .inl (k1, 160, .inl f1))] := hD
  refine lv_aload_n hx hb dX0_clear_5 rfl (lv_at hl 0 rfl) ?_
  refine lv_iconst (v := 0) hx hb dX0_clear_6 (by decide) ?_
  refine va_put (D := (dC, dI)) (ci := 0) (v := .int 0) (ty := .int) (C := RX0) (T := TX0) (N := 14) hx hb hts iwX0 tyX0 tyX0_ok nmX0 hown hK hP hD hS 0 rfl rfl 1 (by decide) (hts _ mw_238) (fun _ h9 => h9) rfl (by decide +kernel) rfl rfl (Nat.le_of_ble_eq_true rfl) dX0_clear_7 (fun H locs hP hD hS => ?_)
  have hP : va_P (dC, dI) CL [(a0, .inr (0, [.int 0, .int 0, .int 0, .int 0, .int 0, .int 0, .long 0, .ref a1, .ref a2, .ref a3, .ref a4, .ref a5, .ref a6, .ref a7])), (a2, .inr (5, [.ref a8, .int 0])), (a3, .inr (5, [.ref a9, .int 0])), (a4, .inr (5, [.ref a10, .int 0])), (a7, .inr (3, [.ref a11, .ref a12, .int 0, .int 0])), (a1, .inl (k0, 5, .inl f0)), (a5, .inl (k1, 160, .inl f1))] H := hP
  have hD : va_D A [(a0, .inr (0, [.int 0, .int 0, .int 0, .int 0, .int 0, .int 0, .long 0, .ref a1, .ref a2, .ref a3, .ref a4, .ref a5, .ref a6, .ref a7])), (a2, .inr (5, [.ref a8, .int 0])), (a3, .inr (5, [.ref a9, .int 0])), (a4, .inr (5, [.ref a10, .int 0])), (a7, .inr (3, [.ref a11, .ref a12, .int 0, .int 0])), (a1, .inl (k0, 5, .inl f0)), (a5, .inl (k1, 160, .inl f1))] := hD
  refine lv_aload_n hx hb dX0_clear_10 rfl (lv_at hl 0 rfl) ?_
  refine lv_iconst (v := 0) hx hb dX0_clear_11 (by decide) ?_
  refine va_put (D := (dC, dI)) (ci := 0) (v := .int 0) (ty := .int) (C := RX0) (T := TX0) (N := 14) hx hb hts iwX0 tyX0 tyX0_ok nmX0 hown hK hP hD hS 0 rfl rfl 2 (by decide) (hts _ mw_242) (fun _ h9 => h9) rfl (by decide +kernel) rfl rfl (Nat.le_of_ble_eq_true rfl) dX0_clear_12 (fun H locs hP hD hS => ?_)
  have hP : va_P (dC, dI) CL [(a0, .inr (0, [.int 0, .int 0, .int 0, .int 0, .int 0, .int 0, .long 0, .ref a1, .ref a2, .ref a3, .ref a4, .ref a5, .ref a6, .ref a7])), (a2, .inr (5, [.ref a8, .int 0])), (a3, .inr (5, [.ref a9, .int 0])), (a4, .inr (5, [.ref a10, .int 0])), (a7, .inr (3, [.ref a11, .ref a12, .int 0, .int 0])), (a1, .inl (k0, 5, .inl f0)), (a5, .inl (k1, 160, .inl f1))] H := hP
  have hD : va_D A [(a0, .inr (0, [.int 0, .int 0, .int 0, .int 0, .int 0, .int 0, .long 0, .ref a1, .ref a2, .ref a3, .ref a4, .ref a5, .ref a6, .ref a7])), (a2, .inr (5, [.ref a8, .int 0])), (a3, .inr (5, [.ref a9, .int 0])), (a4, .inr (5, [.ref a10, .int 0])), (a7, .inr (3, [.ref a11, .ref a12, .int 0, .int 0])), (a1, .inl (k0, 5, .inl f0)), (a5, .inl (k1, 160, .inl f1))] := hD
  refine lv_aload_n hx hb dX0_clear_15 rfl (lv_at hl 0 rfl) ?_
  refine lv_iconst (v := 0) hx hb dX0_clear_16 (by decide) ?_
  refine va_put (D := (dC, dI)) (ci := 0) (v := .int 0) (ty := .int) (C := RX0) (T := TX0) (N := 14) hx hb hts iwX0 tyX0 tyX0_ok nmX0 hown hK hP hD hS 0 rfl rfl 3 (by decide) (hts _ mw_246) (fun _ h9 => h9) rfl (by decide +kernel) rfl rfl (Nat.le_of_ble_eq_true rfl) dX0_clear_17 (fun H locs hP hD hS => ?_)
  have hP : va_P (dC, dI) CL [(a0, .inr (0, [.int 0, .int 0, .int 0, .int 0, .int 0, .int 0, .long 0, .ref a1, .ref a2, .ref a3, .ref a4, .ref a5, .ref a6, .ref a7])), (a2, .inr (5, [.ref a8, .int 0])), (a3, .inr (5, [.ref a9, .int 0])), (a4, .inr (5, [.ref a10, .int 0])), (a7, .inr (3, [.ref a11, .ref a12, .int 0, .int 0])), (a1, .inl (k0, 5, .inl f0)), (a5, .inl (k1, 160, .inl f1))] H := hP
  have hD : va_D A [(a0, .inr (0, [.int 0, .int 0, .int 0, .int 0, .int 0, .int 0, .long 0, .ref a1, .ref a2, .ref a3, .ref a4, .ref a5, .ref a6, .ref a7])), (a2, .inr (5, [.ref a8, .int 0])), (a3, .inr (5, [.ref a9, .int 0])), (a4, .inr (5, [.ref a10, .int 0])), (a7, .inr (3, [.ref a11, .ref a12, .int 0, .int 0])), (a1, .inl (k0, 5, .inl f0)), (a5, .inl (k1, 160, .inl f1))] := hD
  refine lv_aload_n hx hb dX0_clear_20 rfl (lv_at hl 0 rfl) ?_
  refine lv_iconst (v := 0) hx hb dX0_clear_21 (by decide) ?_
  refine va_put (D := (dC, dI)) (ci := 0) (v := .int 0) (ty := .int) (C := RX0) (T := TX0) (N := 14) hx hb hts iwX0 tyX0 tyX0_ok nmX0 hown hK hP hD hS 0 rfl rfl 4 (by decide) (hts _ mw_250) (fun _ h9 => h9) rfl (by decide +kernel) rfl rfl (Nat.le_of_ble_eq_true rfl) dX0_clear_22 (fun H locs hP hD hS => ?_)
  have hP : va_P (dC, dI) CL [(a0, .inr (0, [.int 0, .int 0, .int 0, .int 0, .int 0, .int 0, .long 0, .ref a1, .ref a2, .ref a3, .ref a4, .ref a5, .ref a6, .ref a7])), (a2, .inr (5, [.ref a8, .int 0])), (a3, .inr (5, [.ref a9, .int 0])), (a4, .inr (5, [.ref a10, .int 0])), (a7, .inr (3, [.ref a11, .ref a12, .int 0, .int 0])), (a1, .inl (k0, 5, .inl f0)), (a5, .inl (k1, 160, .inl f1))] H := hP
  have hD : va_D A [(a0, .inr (0, [.int 0, .int 0, .int 0, .int 0, .int 0, .int 0, .long 0, .ref a1, .ref a2, .ref a3, .ref a4, .ref a5, .ref a6, .ref a7])), (a2, .inr (5, [.ref a8, .int 0])), (a3, .inr (5, [.ref a9, .int 0])), (a4, .inr (5, [.ref a10, .int 0])), (a7, .inr (3, [.ref a11, .ref a12, .int 0, .int 0])), (a1, .inl (k0, 5, .inl f0)), (a5, .inl (k1, 160, .inl f1))] := hD
  refine lv_aload_n hx hb dX0_clear_25 rfl (lv_at hl 0 rfl) ?_
  refine lv_iconst (v := 0) hx hb dX0_clear_26 (by decide) ?_
  refine va_put (D := (dC, dI)) (ci := 0) (v := .int 0) (ty := .int) (C := RX0) (T := TX0) (N := 14) hx hb hts iwX0 tyX0 tyX0_ok nmX0 hown hK hP hD hS 0 rfl rfl 5 (by decide) (hts _ mw_252) (fun _ h9 => h9) rfl (by decide +kernel) rfl rfl (Nat.le_of_ble_eq_true rfl) dX0_clear_27 (fun H locs hP hD hS => ?_)
  have hP : va_P (dC, dI) CL [(a0, .inr (0, [.int 0, .int 0, .int 0, .int 0, .int 0, .int 0, .long 0, .ref a1, .ref a2, .ref a3, .ref a4, .ref a5, .ref a6, .ref a7])), (a2, .inr (5, [.ref a8, .int 0])), (a3, .inr (5, [.ref a9, .int 0])), (a4, .inr (5, [.ref a10, .int 0])), (a7, .inr (3, [.ref a11, .ref a12, .int 0, .int 0])), (a1, .inl (k0, 5, .inl f0)), (a5, .inl (k1, 160, .inl f1))] H := hP
  have hD : va_D A [(a0, .inr (0, [.int 0, .int 0, .int 0, .int 0, .int 0, .int 0, .long 0, .ref a1, .ref a2, .ref a3, .ref a4, .ref a5, .ref a6, .ref a7])), (a2, .inr (5, [.ref a8, .int 0])), (a3, .inr (5, [.ref a9, .int 0])), (a4, .inr (5, [.ref a10, .int 0])), (a7, .inr (3, [.ref a11, .ref a12, .int 0, .int 0])), (a1, .inl (k0, 5, .inl f0)), (a5, .inl (k1, 160, .inl f1))] := hD
  refine lv_aload_n hx hb dX0_clear_30 rfl (lv_at hl 0 rfl) ?_
  refine lv_lconst (v := 0) hx hb dX0_clear_31 (by decide) ?_
  refine va_put (D := (dC, dI)) (ci := 0) (v := .long 0) (ty := .long) (C := RX0) (T := TX0) (N := 14) hx hb hts iwX0 tyX0 tyX0_ok nmX0 hown hK hP hD hS 0 rfl rfl 6 (by decide) (hts _ mw_254) (fun _ h9 => h9) rfl (by decide +kernel) rfl rfl (Nat.le_of_ble_eq_true rfl) dX0_clear_32 (fun H locs hP hD hS => ?_)
  have hP : va_P (dC, dI) CL [(a0, .inr (0, [.int 0, .int 0, .int 0, .int 0, .int 0, .int 0, .long 0, .ref a1, .ref a2, .ref a3, .ref a4, .ref a5, .ref a6, .ref a7])), (a2, .inr (5, [.ref a8, .int 0])), (a3, .inr (5, [.ref a9, .int 0])), (a4, .inr (5, [.ref a10, .int 0])), (a7, .inr (3, [.ref a11, .ref a12, .int 0, .int 0])), (a1, .inl (k0, 5, .inl f0)), (a5, .inl (k1, 160, .inl f1))] H := hP
  have hD : va_D A [(a0, .inr (0, [.int 0, .int 0, .int 0, .int 0, .int 0, .int 0, .long 0, .ref a1, .ref a2, .ref a3, .ref a4, .ref a5, .ref a6, .ref a7])), (a2, .inr (5, [.ref a8, .int 0])), (a3, .inr (5, [.ref a9, .int 0])), (a4, .inr (5, [.ref a10, .int 0])), (a7, .inr (3, [.ref a11, .ref a12, .int 0, .int 0])), (a1, .inl (k0, 5, .inl f0)), (a5, .inl (k1, 160, .inl f1))] := hD
  refine lv_aload_n hx hb dX0_clear_35 rfl (lv_at hl 0 rfl) ?_
  refine va_get (D := (dC, dI)) (ci := 0) (v := .ref a2) (C := RX0) (T := TX0) (N := 14) hx hb hts iwX0 hown hK hP 0 rfl rfl 8 (by decide) (hts _ mw_257) (fun _ h9 => h9) rfl dX0_clear_36 ?_
  refine lv_iconst (v := 0) hx hb dX0_clear_39 (by decide) ?_
  refine va_put (D := (dC, dI)) (ci := 5) (v := .int 0) (ty := .int) (C := RX5) (T := TX5) (N := 2) hx hb hts iwX5 tyX5 tyX5_ok nmX5 hown hK hP hD hS 1 rfl rfl 1 (by decide) (hts _ mw_144) (fun _ h9 => h9) rfl (by decide +kernel) rfl rfl (Nat.le_of_ble_eq_true rfl) dX0_clear_40 (fun H locs hP hD hS => ?_)
  have hP : va_P (dC, dI) CL [(a0, .inr (0, [.int 0, .int 0, .int 0, .int 0, .int 0, .int 0, .long 0, .ref a1, .ref a2, .ref a3, .ref a4, .ref a5, .ref a6, .ref a7])), (a2, .inr (5, [.ref a8, .int 0])), (a3, .inr (5, [.ref a9, .int 0])), (a4, .inr (5, [.ref a10, .int 0])), (a7, .inr (3, [.ref a11, .ref a12, .int 0, .int 0])), (a1, .inl (k0, 5, .inl f0)), (a5, .inl (k1, 160, .inl f1))] H := hP
  have hD : va_D A [(a0, .inr (0, [.int 0, .int 0, .int 0, .int 0, .int 0, .int 0, .long 0, .ref a1, .ref a2, .ref a3, .ref a4, .ref a5, .ref a6, .ref a7])), (a2, .inr (5, [.ref a8, .int 0])), (a3, .inr (5, [.ref a9, .int 0])), (a4, .inr (5, [.ref a10, .int 0])), (a7, .inr (3, [.ref a11, .ref a12, .int 0, .int 0])), (a1, .inl (k0, 5, .inl f0)), (a5, .inl (k1, 160, .inl f1))] := hD
  refine lv_aload_n hx hb dX0_clear_43 rfl (lv_at hl 0 rfl) ?_
  refine va_get (D := (dC, dI)) (ci := 0) (v := .ref a3) (C := RX0) (T := TX0) (N := 14) hx hb hts iwX0 hown hK hP 0 rfl rfl 9 (by decide) (hts _ mw_260) (fun _ h9 => h9) rfl dX0_clear_44 ?_
  refine lv_iconst (v := 0) hx hb dX0_clear_47 (by decide) ?_
  refine va_put (D := (dC, dI)) (ci := 5) (v := .int 0) (ty := .int) (C := RX5) (T := TX5) (N := 2) hx hb hts iwX5 tyX5 tyX5_ok nmX5 hown hK hP hD hS 2 rfl rfl 1 (by decide) (hts _ mw_144) (fun _ h9 => h9) rfl (by decide +kernel) rfl rfl (Nat.le_of_ble_eq_true rfl) dX0_clear_48 (fun H locs hP hD hS => ?_)
  have hP : va_P (dC, dI) CL [(a0, .inr (0, [.int 0, .int 0, .int 0, .int 0, .int 0, .int 0, .long 0, .ref a1, .ref a2, .ref a3, .ref a4, .ref a5, .ref a6, .ref a7])), (a2, .inr (5, [.ref a8, .int 0])), (a3, .inr (5, [.ref a9, .int 0])), (a4, .inr (5, [.ref a10, .int 0])), (a7, .inr (3, [.ref a11, .ref a12, .int 0, .int 0])), (a1, .inl (k0, 5, .inl f0)), (a5, .inl (k1, 160, .inl f1))] H := hP
  have hD : va_D A [(a0, .inr (0, [.int 0, .int 0, .int 0, .int 0, .int 0, .int 0, .long 0, .ref a1, .ref a2, .ref a3, .ref a4, .ref a5, .ref a6, .ref a7])), (a2, .inr (5, [.ref a8, .int 0])), (a3, .inr (5, [.ref a9, .int 0])), (a4, .inr (5, [.ref a10, .int 0])), (a7, .inr (3, [.ref a11, .ref a12, .int 0, .int 0])), (a1, .inl (k0, 5, .inl f0)), (a5, .inl (k1, 160, .inl f1))] := hD
  refine lv_aload_n hx hb dX0_clear_51 rfl (lv_at hl 0 rfl) ?_
  refine va_get (D := (dC, dI)) (ci := 0) (v := .ref a4) (C := RX0) (T := TX0) (N := 14) hx hb hts iwX0 hown hK hP 0 rfl rfl 10 (by decide) (hts _ mw_265) (fun _ h9 => h9) rfl dX0_clear_52 ?_
  refine lv_iconst (v := 0) hx hb dX0_clear_55 (by decide) ?_
  refine va_put (D := (dC, dI)) (ci := 5) (v := .int 0) (ty := .int) (C := RX5) (T := TX5) (N := 2) hx hb hts iwX5 tyX5 tyX5_ok nmX5 hown hK hP hD hS 3 rfl rfl 1 (by decide) (hts _ mw_144) (fun _ h9 => h9) rfl (by decide +kernel) rfl rfl (Nat.le_of_ble_eq_true rfl) dX0_clear_56 (fun H locs hP hD hS => ?_)
  have hP : va_P (dC, dI) CL [(a0, .inr (0, [.int 0, .int 0, .int 0, .int 0, .int 0, .int 0, .long 0, .ref a1, .ref a2, .ref a3, .ref a4, .ref a5, .ref a6, .ref a7])), (a2, .inr (5, [.ref a8, .int 0])), (a3, .inr (5, [.ref a9, .int 0])), (a4, .inr (5, [.ref a10, .int 0])), (a7, .inr (3, [.ref a11, .ref a12, .int 0, .int 0])), (a1, .inl (k0, 5, .inl f0)), (a5, .inl (k1, 160, .inl f1))] H := hP
  have hD : va_D A [(a0, .inr (0, [.int 0, .int 0, .int 0, .int 0, .int 0, .int 0, .long 0, .ref a1, .ref a2, .ref a3, .ref a4, .ref a5, .ref a6, .ref a7])), (a2, .inr (5, [.ref a8, .int 0])), (a3, .inr (5, [.ref a9, .int 0])), (a4, .inr (5, [.ref a10, .int 0])), (a7, .inr (3, [.ref a11, .ref a12, .int 0, .int 0])), (a1, .inl (k0, 5, .inl f0)), (a5, .inl (k1, 160, .inl f1))] := hD
  refine lv_aload_n hx hb dX0_clear_59 rfl (lv_at hl 0 rfl) ?_
  refine va_get (D := (dC, dI)) (ci := 0) (v := .ref a7) (C := RX0) (T := TX0) (N := 14) hx hb hts iwX0 hown hK hP 0 rfl rfl 13 (by decide) (hts _ mw_277) (fun _ h9 => h9) rfl dX0_clear_60 ?_
  have hPc := hP.sub (ws' := [(a7, .inr (3, [.ref a11, .ref a12, .int 0, .int 0]))]) [4] rfl
  have hDc := hD.sub (ws' := [(a7, .inr (3, [.ref a11, .ref a12, .int 0, .int 0]))]) [4] (by decide) rfl
  have hKc := hK.sub (tys' := []) [] rfl
  have hFc := va_free (wc := [(a7, .inr (3, [.ref a11, .ref a12, .int 0, .int 0]))]) hD hS hA [4] rfl
  refine va_callv (va_runV (As := []) (rest := []) ⟨hx, hb, hml, hown, hts⟩ (zX3_clear l dC dI adK adV H.size a7 a11 a12) (cwV 0 hts (tb_V mw_227 mw_228 mw_229 mw_103 mw_230) rfl rfl rfl (by decide +kernel) ⟨Nat.le_of_ble_eq_true rfl, Nat.le_of_ble_eq_true rfl⟩) ⟨XB, va_recv hKc hPc (ci := 3) (q0 := 0) rfl rfl, XQ (av := [.ref a7]) hPc hKc hDc hC hS hFc⟩ rfl rfl hl.1 rfl (lv_room (Nat.le_of_ble_eq_true rfl)) dX0_clear_63 ⟨Nat.le_of_ble_eq_true rfl, Nat.le_of_ble_eq_true rfl⟩) hS (fun q _ h => hFc q h) hFc (fun u_9 t H1 locs ht hvm hw hB hz1 hk1 hS => ?_)
  try dsimp only at hw
  obtain ⟨hP1, hK1, hD1⟩ := hB
  rw [ht] at hP1
  have hK1 := va_K.moved hvm.symm hK1
  obtain ⟨hP, hD⟩ := va_join (wr := [(a0, .inr (0, [.int 0, .int 0, .int 0, .int 0, .int 0, .int 0, .long 0, .ref a1, .ref a2, .ref a3, .ref a4, .ref a5, .ref a6, .ref a7])), (a2, .inr (5, [.ref a8, .int 0])), (a3, .inr (5, [.ref a9, .int 0])), (a4, .inr (5, [.ref a10, .int 0])), (a1, .inl (k0, 5, .inl f0)), (a5, .inl (k1, 160, .inl f1))]) (w1 := [(a7, .inr (3, [.ref a11, .ref a12, .int 0, .int 0]))]) hP hD [4] [0, 1, 2, 3, 5, 6] rfl rfl (by decide) (by decide) hk1 hFc hP1 hD1
  have hK := (hK.sub (tys' := [(k0, .int), (k1, .int)]) [0, 1] rfl).app hK1
  generalize H1 = H at hP hS ⊢
  have hP : va_P (dC, dI) CL [(a0, .inr (0, [.int 0, .int 0, .int 0, .int 0, .int 0, .int 0, .long 0, .ref a1, .ref a2, .ref a3, .ref a4, .ref a5, .ref a6, .ref a7])), (a2, .inr (5, [.ref a8, .int 0])), (a3, .inr (5, [.ref a9, .int 0])), (a4, .inr (5, [.ref a10, .int 0])), (a1, .inl (k0, 5, .inl f0)), (a5, .inl (k1, 160, .inl f1)), (a7, .inr (3, [.ref a11, .ref a12, .int 0, .int 0]))] H := hP
  have hD : va_D A [(a0, .inr (0, [.int 0, .int 0, .int 0, .int 0, .int 0, .int 0, .long 0, .ref a1, .ref a2, .ref a3, .ref a4, .ref a5, .ref a6, .ref a7])), (a2, .inr (5, [.ref a8, .int 0])), (a3, .inr (5, [.ref a9, .int 0])), (a4, .inr (5, [.ref a10, .int 0])), (a1, .inl (k0, 5, .inl f0)), (a5, .inl (k1, 160, .inl f1)), (a7, .inr (3, [.ref a11, .ref a12, .int 0, .int 0]))] := hD
  have hK : va_K (dC, dI) CL [(k0, .int), (k1, .int)] s := hK
  refine lv_aload_n hx hb dX0_clear_66 rfl (lv_at hl 0 rfl) ?_
  refine va_get (D := (dC, dI)) (ci := 0) (v := .ref a1) (C := RX0) (T := TX0) (N := 14) hx hb hts iwX0 hown hK hP 0 rfl rfl 7 (by decide) (hts _ mw_255) (fun _ h9 => h9) rfl dX0_clear_67 ?_
  refine lv_iconst (v := (-1)) hx hb dX0_clear_70 (by decide) ?_
  have hPc := hP.sub (ws' := [(a1, .inl (k0, 5, .inl f0))]) [4] rfl
  have hDc := hD.sub (ws' := [(a1, .inl (k0, 5, .inl f0))]) [4] (by decide) rfl
  have hKc := hK.sub (tys' := [(k0, .int)]) [0] rfl
  have hFc := va_free (wc := [(a1, .inl (k0, 5, .inl f0))]) hD hS hA [4] rfl
  refine va_callv (va_runS (As := [.ref a1, .int (-1)]) (rest := []) ⟨hx, hb, hml, hown, hts⟩ (zJ7_fill_53178_3 l dC dI adK adV H.size a1 k0 f0) (va_cwS 2 hts (tb_S mw_231 mw_232 mw_105 mw_233) rfl rfl rfl (by decide +kernel) ⟨Nat.le_of_ble_eq_true rfl, Nat.le_of_ble_eq_true rfl⟩) ⟨XB, XQ (av := [.ref a1, .int (-1)]) hPc hKc hDc hC hS hFc⟩ rfl rfl hl.1 rfl (lv_room (Nat.le_of_ble_eq_true rfl)) dX0_clear_71 ⟨Nat.le_of_ble_eq_true rfl, Nat.le_of_ble_eq_true rfl⟩) hS (fun q _ h => hFc q h) hFc (fun u_9 t H1 locs ht hvm hw hB hz1 hk1 hS => ?_)
  try dsimp only at hw
  obtain ⟨f_3, hP1, hK1, hD1⟩ := hB
  rw [ht] at hP1
  have hK1 := va_K.moved hvm.symm hK1
  obtain ⟨hP, hD⟩ := va_join (wr := [(a0, .inr (0, [.int 0, .int 0, .int 0, .int 0, .int 0, .int 0, .long 0, .ref a1, .ref a2, .ref a3, .ref a4, .ref a5, .ref a6, .ref a7])), (a2, .inr (5, [.ref a8, .int 0])), (a3, .inr (5, [.ref a9, .int 0])), (a4, .inr (5, [.ref a10, .int 0])), (a5, .inl (k1, 160, .inl f1)), (a7, .inr (3, [.ref a11, .ref a12, .int 0, .int 0]))]) (w1 := [(a1, .inl (k0, 5, .inl f_3))]) hP hD [4] [0, 1, 2, 3, 5, 6] rfl rfl (by decide) (by decide) hk1 hFc hP1 hD1
  have hK := (hK.sub (tys' := [(k1, .int)]) [1] rfl).app hK1
  generalize H1 = H at hP hS ⊢
  have hP : va_P (dC, dI) CL [(a0, .inr (0, [.int 0, .int 0, .int 0, .int 0, .int 0, .int 0, .long 0, .ref a1, .ref a2, .ref a3, .ref a4, .ref a5, .ref a6, .ref a7])), (a2, .inr (5, [.ref a8, .int 0])), (a3, .inr (5, [.ref a9, .int 0])), (a4, .inr (5, [.ref a10, .int 0])), (a5, .inl (k1, 160, .inl f1)), (a7, .inr (3, [.ref a11, .ref a12, .int 0, .int 0])), (a1, .inl (k0, 5, .inl f_3))] H := hP
  have hD : va_D A [(a0, .inr (0, [.int 0, .int 0, .int 0, .int 0, .int 0, .int 0, .long 0, .ref a1, .ref a2, .ref a3, .ref a4, .ref a5, .ref a6, .ref a7])), (a2, .inr (5, [.ref a8, .int 0])), (a3, .inr (5, [.ref a9, .int 0])), (a4, .inr (5, [.ref a10, .int 0])), (a5, .inl (k1, 160, .inl f1)), (a7, .inr (3, [.ref a11, .ref a12, .int 0, .int 0])), (a1, .inl (k0, 5, .inl f_3))] := hD
  have hK : va_K (dC, dI) CL [(k1, .int), (k0, .int)] s := hK
  refine lv_aload_n hx hb dX0_clear_74 rfl (lv_at hl 0 rfl) ?_
  refine va_get (D := (dC, dI)) (ci := 0) (v := .ref a5) (C := RX0) (T := TX0) (N := 14) hx hb hts iwX0 hown hK hP 0 rfl rfl 11 (by decide) (hts _ mw_270) (fun _ h9 => h9) rfl dX0_clear_75 ?_
  refine lv_iconst (v := (-1)) hx hb dX0_clear_78 (by decide) ?_
  have hPc := hP.sub (ws' := [(a5, .inl (k1, 160, .inl f1))]) [4] rfl
  have hDc := hD.sub (ws' := [(a5, .inl (k1, 160, .inl f1))]) [4] (by decide) rfl
  have hKc := hK.sub (tys' := [(k1, .int)]) [0] rfl
  have hFc := va_free (wc := [(a5, .inl (k1, 160, .inl f1))]) hD hS hA [4] rfl
  refine va_callv (va_runS (As := [.ref a5, .int (-1)]) (rest := []) ⟨hx, hb, hml, hown, hts⟩ (zJ7_fill_53178_2 l dC dI adK adV H.size a5 k1 f1) (va_cwS 2 hts (tb_S mw_231 mw_232 mw_105 mw_233) rfl rfl rfl (by decide +kernel) ⟨Nat.le_of_ble_eq_true rfl, Nat.le_of_ble_eq_true rfl⟩) ⟨XB, XQ (av := [.ref a5, .int (-1)]) hPc hKc hDc hC hS hFc⟩ rfl rfl hl.1 rfl (lv_room (Nat.le_of_ble_eq_true rfl)) dX0_clear_79 ⟨Nat.le_of_ble_eq_true rfl, Nat.le_of_ble_eq_true rfl⟩) hS (fun q _ h => hFc q h) hFc (fun u_9 t H1 locs ht hvm hw hB hz1 hk1 hS => ?_)
  try dsimp only at hw
  obtain ⟨f_5, hP1, hK1, hD1⟩ := hB
  rw [ht] at hP1
  have hK1 := va_K.moved hvm.symm hK1
  obtain ⟨hP, hD⟩ := va_join (wr := [(a0, .inr (0, [.int 0, .int 0, .int 0, .int 0, .int 0, .int 0, .long 0, .ref a1, .ref a2, .ref a3, .ref a4, .ref a5, .ref a6, .ref a7])), (a2, .inr (5, [.ref a8, .int 0])), (a3, .inr (5, [.ref a9, .int 0])), (a4, .inr (5, [.ref a10, .int 0])), (a7, .inr (3, [.ref a11, .ref a12, .int 0, .int 0])), (a1, .inl (k0, 5, .inl f_3))]) (w1 := [(a5, .inl (k1, 160, .inl f_5))]) hP hD [4] [0, 1, 2, 3, 5, 6] rfl rfl (by decide) (by decide) hk1 hFc hP1 hD1
  have hK := (hK.sub (tys' := [(k0, .int)]) [1] rfl).app hK1
  generalize H1 = H at hP hS ⊢
  have hP : va_P (dC, dI) CL [(a0, .inr (0, [.int 0, .int 0, .int 0, .int 0, .int 0, .int 0, .long 0, .ref a1, .ref a2, .ref a3, .ref a4, .ref a5, .ref a6, .ref a7])), (a2, .inr (5, [.ref a8, .int 0])), (a3, .inr (5, [.ref a9, .int 0])), (a4, .inr (5, [.ref a10, .int 0])), (a7, .inr (3, [.ref a11, .ref a12, .int 0, .int 0])), (a1, .inl (k0, 5, .inl f_3)), (a5, .inl (k1, 160, .inl f_5))] H := hP
  have hD : va_D A [(a0, .inr (0, [.int 0, .int 0, .int 0, .int 0, .int 0, .int 0, .long 0, .ref a1, .ref a2, .ref a3, .ref a4, .ref a5, .ref a6, .ref a7])), (a2, .inr (5, [.ref a8, .int 0])), (a3, .inr (5, [.ref a9, .int 0])), (a4, .inr (5, [.ref a10, .int 0])), (a7, .inr (3, [.ref a11, .ref a12, .int 0, .int 0])), (a1, .inl (k0, 5, .inl f_3)), (a5, .inl (k1, 160, .inl f_5))] := hD
  have hK : va_K (dC, dI) CL [(k0, .int), (k1, .int)] s := hK
  refine W.widen (k := 0) (n := 0) (Nat.le_of_ble_eq_true rfl) (Nat.le_of_ble_eq_true rfl) ?_
  have hP9 := hP.sub (ws' := [(a0, .inr (0, [.int 0, .int 0, .int 0, .int 0, .int 0, .int 0, .long 0, .ref a1, .ref a2, .ref a3, .ref a4, .ref a5, .ref a6, .ref a7])), (a2, .inr (5, [.ref a8, .int 0])), (a3, .inr (5, [.ref a9, .int 0])), (a4, .inr (5, [.ref a10, .int 0])), (a7, .inr (3, [.ref a11, .ref a12, .int 0, .int 0])), (a1, .inl (k0, 5, .inl f_3)), (a5, .inl (k1, 160, .inl f_5))]) [0, 1, 2, 3, 4, 5, 6] rfl
  have hD9 := hD.sub (ws' := [(a0, .inr (0, [.int 0, .int 0, .int 0, .int 0, .int 0, .int 0, .long 0, .ref a1, .ref a2, .ref a3, .ref a4, .ref a5, .ref a6, .ref a7])), (a2, .inr (5, [.ref a8, .int 0])), (a3, .inr (5, [.ref a9, .int 0])), (a4, .inr (5, [.ref a10, .int 0])), (a7, .inr (3, [.ref a11, .ref a12, .int 0, .int 0])), (a1, .inl (k0, 5, .inl f_3)), (a5, .inl (k1, 160, .inl f_5))]) [0, 1, 2, 3, 4, 5, 6] (by decide) rfl
  have hK9 := hK.sub (tys' := [(k0, .int), (k1, .int)]) [0, 1] rfl
  exact W.vret hx hb hr (fun t ht hW => ⟨⟨(), rfl, trivial, f_3, f_5, by rw [ht]; exact hP9, va_K.moved hW.alike hK9, hD9⟩, hS.F ht⟩) hS.2.2 dX0_clear_82
set_option maxHeartbeats 4000000 in
set_option maxRecDepth 100000 in
theorem zX8_pass (l : Launch) (dC : Nat → ClassId) (dI : Nat → Nat → Nat) (adK adV : Nat → Nat) (sz : Nat) (a0 : Nat) (a1 : Nat) (a2 : Nat) (a3 : Nat) : Met l yX8_pass (Cond.code yX8_pass cX8_pass 3 none :: TB) ({ frames := 1, cells := 0, slots := 0, locals := 100 }) (XP (dC, dI) adK adV [.ref a0, .int 1] sz [(a0, .inr (8, [.ref a1, .ref a2, .ref a3, .int 0, .int 0, .int 0, .int 0, .int 0, .long 0]))] []) (va_Qv (fun _ : Unit => True) (fun _ t => va_P (dC, dI) CL [(a0, .inr (8, [.ref a1, .ref a2, .ref a3, .int 0, .int 0, .int 0, .int 0, .int 0, .long 0]))] t.heap ∧ va_K (dC, dI) CL [] t ∧ va_D (va_A [(a0, .inr (8, [.ref a1, .ref a2, .ref a3, .int 0, .int 0, .int 0, .int 0, .int 0, .long 0]))] sz) [(a0, .inr (8, [.ref a1, .ref a2, .ref a3, .int 0, .int 0, .int 0, .int 0, .int 0, .long 0]))]) (va_A [(a0, .inr (8, [.ref a1, .ref a2, .ref a3, .int 0, .int 0, .int 0, .int 0, .int 0, .long 0]))] sz)) 0 0 (va_A [(a0, .inr (8, [.ref a1, .ref a2, .ref a3, .int 0, .int 0, .int 0, .int 0, .int 0, .long 0]))] sz) := by
  refine Met.ofW (cc := cX8_pass) (maxL := 3) (ret := none) (by decide) rfl ?_
  intro p e s m args below meth c s₁ B hml hv
  obtain ⟨rfl, hsz, hP, hK, hD0, hC⟩ := hv
  have hx := B.exec
  have hb := B.bytes
  have hr := B.returns
  have hts0 := atoms_spec (ws := Cond.code yX8_pass cX8_pass 3 none :: TB) B.pre
  have hts : ∀ w ∈ TB, w.before _ s = true := fun w h => hts0 w (List.mem_cons_of_mem _ h)
  have hown : s.vm.findClass RX8 = some m.cls := findClass_of_methodNamed B.named
  have hlocks := B.notSynchronized
  subst hsz
  have hD := hD0.self (sz := s.heap.size)
  generalize hAe : va_A [(a0, .inr (8, [.ref a1, .ref a2, .ref a3, .int 0, .int 0, .int 0, .int 0, .int 0, .long 0]))] s.heap.size = A at hD hC ⊢
  have hA : ∀ q : Nat, s.heap.size ≤ q → A q := fun q h => by rw [← hAe]; exact Or.inr h
  have hl := lv_entry ([.ref a0, .int 1]) (n := 3) (Nat.le_of_ble_eq_true rfl)
  rw [lg_entry_eq]
  generalize (lg_sl ([.ref a0, .int 1]) ++ List.replicate (3 - (lg_sl ([.ref a0, .int 1])).length) Slot.unset).toArray = ls at hl ⊢
  have hl : lv_has ls 3 [(0, .ref a0), (1, .int 1)] := hl
  have hP : va_P (dC, dI) CL [(a0, .inr (8, [.ref a1, .ref a2, .ref a3, .int 0, .int 0, .int 0, .int 0, .int 0, .long 0]))] s.heap := hP
  obtain ⟨H, hH⟩ : ∃ z, z = s.heap := ⟨_, rfl⟩
  rw [← hH] at hP ⊢
  have hS : va_S A s.heap H [] := by rw [hH]; exact va_S.rf
  refine lv_aload_n hx hb dX8_pass_0 rfl (lv_at hl 0 rfl) ?_
  refine va_get (D := (dC, dI)) (ci := 8) (v := .int 0) (C := RX8) (T := TX8) (N := 9) hx hb hts iwX8 hown hK hP 0 rfl rfl 4 (by decide) (hts _ mw_382) (fun _ h9 => h9) rfl dX8_pass_1 ?_
  refine lv_istore_n (lv' := [(2, .int 0), (0, .ref a0), (1, .int 1)]) hx hb dX8_pass_4 rfl hl (by decide) rfl (fun ls hl => ?_)
  refine lv_iload_n hx hb dX8_pass_5 rfl (lv_at hl 0 rfl) ?_
  refine lv_aload_n hx hb dX8_pass_6 rfl (lv_at hl 1 rfl) ?_
  refine va_get (D := (dC, dI)) (ci := 8) (v := .int 0) (C := RX8) (T := TX8) (N := 9) hx hb hts iwX8 hown hK hP 0 rfl rfl 3 (by decide) (hts _ mw_381) (fun _ h9 => h9) rfl dX8_pass_7 ?_
  refine lv_icmp_ge (tgt := 45) hx hb dX8_pass_10 (by decide) (fun _ => ?_) (fun h => (h (by decide)).elim)
  refine W.widen (k := 0) (n := 0) (Nat.le_of_ble_eq_true rfl) (Nat.le_of_ble_eq_true rfl) ?_
  have hP9 := hP.sub (ws' := [(a0, .inr (8, [.ref a1, .ref a2, .ref a3, .int 0, .int 0, .int 0, .int 0, .int 0, .long 0]))]) [0] rfl
  have hD9 := hD.sub (ws' := [(a0, .inr (8, [.ref a1, .ref a2, .ref a3, .int 0, .int 0, .int 0, .int 0, .int 0, .long 0]))]) [0] (by decide) rfl
  have hK9 := hK.sub (tys' := []) [] rfl
  exact W.vret hx hb hr (fun t ht hW => ⟨⟨(), rfl, trivial, by rw [ht]; exact hP9, va_K.moved hW.alike hK9, hD9⟩, hS.F ht⟩) hS.2.2 dX8_pass_45
set_option maxHeartbeats 4000000 in
set_option maxRecDepth 100000 in
theorem zX8_advance (l : Launch) (dC : Nat → ClassId) (dI : Nat → Nat → Nat) (adK adV : Nat → Nat) (sz : Nat) (a0 : Nat) (a1 : Nat) (a2 : Nat) (a3 : Nat) : Met l yX8_advance (Cond.code yX8_advance cX8_advance 1 none :: TB) ({ frames := 2, cells := 0, slots := 0, locals := 122 }) (XP (dC, dI) adK adV [.ref a0] sz [(a0, .inr (8, [.ref a1, .ref a2, .ref a3, .int 0, .int 0, .int 0, .int 0, .int 0, .long 0]))] []) (va_Qv (fun _ : Unit => True) (fun _ t => va_P (dC, dI) CL [(a0, .inr (8, [.ref a1, .ref a2, .ref a3, .int 0, .int 0, .int 0, .int 0, .int 0, .long 0]))] t.heap ∧ va_K (dC, dI) CL [] t ∧ va_D (va_A [(a0, .inr (8, [.ref a1, .ref a2, .ref a3, .int 0, .int 0, .int 0, .int 0, .int 0, .long 0]))] sz) [(a0, .inr (8, [.ref a1, .ref a2, .ref a3, .int 0, .int 0, .int 0, .int 0, .int 0, .long 0]))]) (va_A [(a0, .inr (8, [.ref a1, .ref a2, .ref a3, .int 0, .int 0, .int 0, .int 0, .int 0, .long 0]))] sz)) 0 0 (va_A [(a0, .inr (8, [.ref a1, .ref a2, .ref a3, .int 0, .int 0, .int 0, .int 0, .int 0, .long 0]))] sz) := by
  refine Met.ofW (cc := cX8_advance) (maxL := 1) (ret := none) (by decide) rfl ?_
  intro p e s m args below meth c s₁ B hml hv
  obtain ⟨rfl, hsz, hP, hK, hD0, hC⟩ := hv
  have hx := B.exec
  have hb := B.bytes
  have hr := B.returns
  have hts0 := atoms_spec (ws := Cond.code yX8_advance cX8_advance 1 none :: TB) B.pre
  have hts : ∀ w ∈ TB, w.before _ s = true := fun w h => hts0 w (List.mem_cons_of_mem _ h)
  have hown : s.vm.findClass RX8 = some m.cls := findClass_of_methodNamed B.named
  have hlocks := B.notSynchronized
  subst hsz
  have hD := hD0.self (sz := s.heap.size)
  generalize hAe : va_A [(a0, .inr (8, [.ref a1, .ref a2, .ref a3, .int 0, .int 0, .int 0, .int 0, .int 0, .long 0]))] s.heap.size = A at hD hC ⊢
  have hA : ∀ q : Nat, s.heap.size ≤ q → A q := fun q h => by rw [← hAe]; exact Or.inr h
  have hl := lv_entry ([.ref a0]) (n := 1) (Nat.le_of_ble_eq_true rfl)
  rw [lg_entry_eq]
  generalize (lg_sl ([.ref a0]) ++ List.replicate (1 - (lg_sl ([.ref a0])).length) Slot.unset).toArray = ls at hl ⊢
  have hl : lv_has ls 1 [(0, .ref a0)] := hl
  have hP : va_P (dC, dI) CL [(a0, .inr (8, [.ref a1, .ref a2, .ref a3, .int 0, .int 0, .int 0, .int 0, .int 0, .long 0]))] s.heap := hP
  obtain ⟨H, hH⟩ : ∃ z, z = s.heap := ⟨_, rfl⟩
  rw [← hH] at hP ⊢
  have hS : va_S A s.heap H [] := by rw [hH]; exact va_S.rf
  refine lv_aload_n hx hb dX8_advance_0 rfl (lv_at hl 0 rfl) ?_
  refine lv_iconst (v := 1) hx hb dX8_advance_1 (by decide) ?_
  have hPc := hP.sub (ws' := [(a0, .inr (8, [.ref a1, .ref a2, .ref a3, .int 0, .int 0, .int 0, .int 0, .int 0, .long 0]))]) [0] rfl
  have hDc := hD.sub (ws' := [(a0, .inr (8, [.ref a1, .ref a2, .ref a3, .int 0, .int 0, .int 0, .int 0, .int 0, .long 0]))]) [0] (by decide) rfl
  have hKc := hK.sub (tys' := []) [] rfl
  have hFc := va_free (wc := [(a0, .inr (8, [.ref a1, .ref a2, .ref a3, .int 0, .int 0, .int 0, .int 0, .int 0, .long 0]))]) hD hS hA [0] rfl
  refine va_callv (va_runV (As := [.int 1]) (rest := []) ⟨hx, hb, hml, hown, hts⟩ (zX8_pass l dC dI adK adV H.size a0 a1 a2 a3) (cwV 1 hts (tb_V mw_616 mw_618 mw_2 mw_107 mw_619) rfl rfl rfl (by decide +kernel) ⟨Nat.le_of_ble_eq_true rfl, Nat.le_of_ble_eq_true rfl⟩) ⟨XB, va_recv hKc hPc (ci := 8) (q0 := 0) rfl rfl, XQ (av := [.ref a0, .int 1]) hPc hKc hDc hC hS hFc⟩ rfl rfl hl.1 rfl (lv_room (Nat.le_of_ble_eq_true rfl)) dX8_advance_2 ⟨Nat.le_of_ble_eq_true rfl, Nat.le_of_ble_eq_true rfl⟩) hS (fun q _ h => hFc q h) hFc (fun u_9 t H1 locs ht hvm hw hB hz1 hk1 hS => ?_)
  try dsimp only at hw
  obtain ⟨hP1, hK1, hD1⟩ := hB
  rw [ht] at hP1
  have hK1 := va_K.moved hvm.symm hK1
  obtain ⟨hP, hD⟩ := va_join (wr := []) (w1 := [(a0, .inr (8, [.ref a1, .ref a2, .ref a3, .int 0, .int 0, .int 0, .int 0, .int 0, .long 0]))]) hP hD [0] [] rfl rfl (by decide) (by decide) hk1 hFc hP1 hD1
  have hK := (hK.sub (tys' := []) [] rfl).app hK1
  generalize H1 = H at hP hS ⊢
  have hP : va_P (dC, dI) CL [(a0, .inr (8, [.ref a1, .ref a2, .ref a3, .int 0, .int 0, .int 0, .int 0, .int 0, .long 0]))] H := hP
  have hD : va_D A [(a0, .inr (8, [.ref a1, .ref a2, .ref a3, .int 0, .int 0, .int 0, .int 0, .int 0, .long 0]))] := hD
  have hK : va_K (dC, dI) CL [] s := hK
  refine lv_aload_n hx hb dX8_advance_5 rfl (lv_at hl 0 rfl) ?_
  refine lv_aload_n hx hb dX8_advance_6 rfl (lv_at hl 0 rfl) ?_
  refine va_get (D := (dC, dI)) (ci := 8) (v := .int 0) (C := RX8) (T := TX8) (N := 9) hx hb hts iwX8 hown hK hP 0 rfl rfl 4 (by decide) (hts _ mw_382) (fun _ h9 => h9) rfl dX8_advance_7 ?_
  refine va_put (D := (dC, dI)) (ci := 8) (v := .int 0) (ty := .int) (C := RX8) (T := TX8) (N := 9) hx hb hts iwX8 tyX8 tyX8_ok nmX8 hown hK hP hD hS 0 rfl rfl 6 (by decide) (hts _ mw_385) (fun _ h9 => h9) rfl (by decide +kernel) rfl rfl (Nat.le_of_ble_eq_true rfl) dX8_advance_10 (fun H locs hP hD hS => ?_)
  have hP : va_P (dC, dI) CL [(a0, .inr (8, [.ref a1, .ref a2, .ref a3, .int 0, .int 0, .int 0, .int 0, .int 0, .long 0]))] H := hP
  have hD : va_D A [(a0, .inr (8, [.ref a1, .ref a2, .ref a3, .int 0, .int 0, .int 0, .int 0, .int 0, .long 0]))] := hD
  refine lv_aload_n hx hb dX8_advance_13 rfl (lv_at hl 0 rfl) ?_
  refine va_get (D := (dC, dI)) (ci := 8) (v := .int 0) (C := RX8) (T := TX8) (N := 9) hx hb hts iwX8 hown hK hP 0 rfl rfl 4 (by decide) (hts _ mw_382) (fun _ h9 => h9) rfl dX8_advance_14 ?_
  refine lv_aload_n hx hb dX8_advance_17 rfl (lv_at hl 0 rfl) ?_
  refine va_get (D := (dC, dI)) (ci := 8) (v := .int 0) (C := RX8) (T := TX8) (N := 9) hx hb hts iwX8 hown hK hP 0 rfl rfl 3 (by decide) (hts _ mw_381) (fun _ h9 => h9) rfl dX8_advance_18 ?_
  refine lv_icmp_lt (tgt := 30) hx hb dX8_advance_21 (by decide) (fun h => absurd h (by decide)) (fun _ => ?_)
  refine lv_aload_n hx hb dX8_advance_24 rfl (lv_at hl 0 rfl) ?_
  refine lv_iconst (v := 0) hx hb dX8_advance_25 (by decide) ?_
  refine va_put (D := (dC, dI)) (ci := 8) (v := .int 0) (ty := .int) (C := RX8) (T := TX8) (N := 9) hx hb hts iwX8 tyX8 tyX8_ok nmX8 hown hK hP hD hS 0 rfl rfl 5 (by decide) (hts _ mw_383) (fun _ h9 => h9) rfl (by decide +kernel) rfl rfl (Nat.le_of_ble_eq_true rfl) dX8_advance_26 (fun H locs hP hD hS => ?_)
  have hP : va_P (dC, dI) CL [(a0, .inr (8, [.ref a1, .ref a2, .ref a3, .int 0, .int 0, .int 0, .int 0, .int 0, .long 0]))] H := hP
  have hD : va_D A [(a0, .inr (8, [.ref a1, .ref a2, .ref a3, .int 0, .int 0, .int 0, .int 0, .int 0, .long 0]))] := hD
  refine W.widen (k := 0) (n := 0) (Nat.le_of_ble_eq_true rfl) (Nat.le_of_ble_eq_true rfl) ?_
  have hP9 := hP.sub (ws' := [(a0, .inr (8, [.ref a1, .ref a2, .ref a3, .int 0, .int 0, .int 0, .int 0, .int 0, .long 0]))]) [0] rfl
  have hD9 := hD.sub (ws' := [(a0, .inr (8, [.ref a1, .ref a2, .ref a3, .int 0, .int 0, .int 0, .int 0, .int 0, .long 0]))]) [0] (by decide) rfl
  have hK9 := hK.sub (tys' := []) [] rfl
  exact W.vret hx hb hr (fun t ht hW => ⟨⟨(), rfl, trivial, by rw [ht]; exact hP9, va_K.moved hW.alike hK9, hD9⟩, hS.F ht⟩) hS.2.2 dX8_advance_29
set_option maxHeartbeats 4000000 in
set_option maxRecDepth 100000 in
theorem zX8_begin (l : Launch) (dC : Nat → ClassId) (dI : Nat → Nat → Nat) (adK adV : Nat → Nat) (sz : Nat) (a0 : Nat) (a1 : Nat) (k0 : ClassId) (f0 : Nat → Int32) (a2 : Nat) (a3 : Nat) (a4 : Nat) : Met l yX8_begin (Cond.code yX8_begin cX8_begin 3 none :: TB) ({ frames := 3, cells := 0, slots := 0, locals := 142 }) (XP (dC, dI) adK adV [.ref a0, .ref a1, .int 0] sz [(a1, .inl (k0, 1700, .inl f0)), (a0, .inr (8, [.ref a2, .ref a3, .ref a4, .int 0, .int 0, .int 0, .int 0, .int 0, .long 0]))] [(k0, .byte)]) (va_Qv (fun _ : Unit => True) (fun _ t => va_P (dC, dI) CL [(a1, .inl (k0, 1700, .inl f0)), (a0, .inr (8, [.ref a2, .ref a3, .ref a1, .int 0, .int 0, .int 0, .int 0, .int 0, .long 0]))] t.heap ∧ va_K (dC, dI) CL [(k0, .byte)] t ∧ va_D (va_A [(a1, .inl (k0, 1700, .inl f0)), (a0, .inr (8, [.ref a2, .ref a3, .ref a4, .int 0, .int 0, .int 0, .int 0, .int 0, .long 0]))] sz) [(a1, .inl (k0, 1700, .inl f0)), (a0, .inr (8, [.ref a2, .ref a3, .ref a1, .int 0, .int 0, .int 0, .int 0, .int 0, .long 0]))]) (va_A [(a1, .inl (k0, 1700, .inl f0)), (a0, .inr (8, [.ref a2, .ref a3, .ref a4, .int 0, .int 0, .int 0, .int 0, .int 0, .long 0]))] sz)) 0 0 (va_A [(a1, .inl (k0, 1700, .inl f0)), (a0, .inr (8, [.ref a2, .ref a3, .ref a4, .int 0, .int 0, .int 0, .int 0, .int 0, .long 0]))] sz) := by
  refine Met.ofW (cc := cX8_begin) (maxL := 3) (ret := none) (by decide) rfl ?_
  intro p e s m args below meth c s₁ B hml hv
  obtain ⟨rfl, hsz, hP, hK, hD0, hC⟩ := hv
  have hx := B.exec
  have hb := B.bytes
  have hr := B.returns
  have hts0 := atoms_spec (ws := Cond.code yX8_begin cX8_begin 3 none :: TB) B.pre
  have hts : ∀ w ∈ TB, w.before _ s = true := fun w h => hts0 w (List.mem_cons_of_mem _ h)
  have hown : s.vm.findClass RX8 = some m.cls := findClass_of_methodNamed B.named
  have hlocks := B.notSynchronized
  subst hsz
  have hD := hD0.self (sz := s.heap.size)
  generalize hAe : va_A [(a1, .inl (k0, 1700, .inl f0)), (a0, .inr (8, [.ref a2, .ref a3, .ref a4, .int 0, .int 0, .int 0, .int 0, .int 0, .long 0]))] s.heap.size = A at hD hC ⊢
  have hA : ∀ q : Nat, s.heap.size ≤ q → A q := fun q h => by rw [← hAe]; exact Or.inr h
  have hl := lv_entry ([.ref a0, .ref a1, .int 0]) (n := 3) (Nat.le_of_ble_eq_true rfl)
  rw [lg_entry_eq]
  generalize (lg_sl ([.ref a0, .ref a1, .int 0]) ++ List.replicate (3 - (lg_sl ([.ref a0, .ref a1, .int 0])).length) Slot.unset).toArray = ls at hl ⊢
  have hl : lv_has ls 3 [(0, .ref a0), (1, .ref a1), (2, .int 0)] := hl
  have hP : va_P (dC, dI) CL [(a1, .inl (k0, 1700, .inl f0)), (a0, .inr (8, [.ref a2, .ref a3, .ref a4, .int 0, .int 0, .int 0, .int 0, .int 0, .long 0]))] s.heap := hP
  obtain ⟨H, hH⟩ : ∃ z, z = s.heap := ⟨_, rfl⟩
  rw [← hH] at hP ⊢
  have hS : va_S A s.heap H [] := by rw [hH]; exact va_S.rf
  refine lv_aload_n hx hb dX8_begin_0 rfl (lv_at hl 0 rfl) ?_
  refine lv_aload_n hx hb dX8_begin_1 rfl (lv_at hl 1 rfl) ?_
  refine va_put (D := (dC, dI)) (ci := 8) (v := .ref a1) (ty := .array .byte) (C := RX8) (T := TX8) (N := 9) hx hb hts iwX8 tyX8 tyX8_ok nmX8 hown hK hP hD hS 1 rfl rfl 2 (by decide) (hts _ mw_380) (fun _ h9 => h9) rfl (by decide +kernel) rfl rfl (Nat.le_of_ble_eq_true rfl) dX8_begin_2 (fun H locs hP hD hS => ?_)
  have hP : va_P (dC, dI) CL [(a1, .inl (k0, 1700, .inl f0)), (a0, .inr (8, [.ref a2, .ref a3, .ref a1, .int 0, .int 0, .int 0, .int 0, .int 0, .long 0]))] H := hP
  have hD : va_D A [(a1, .inl (k0, 1700, .inl f0)), (a0, .inr (8, [.ref a2, .ref a3, .ref a1, .int 0, .int 0, .int 0, .int 0, .int 0, .long 0]))] := hD
  refine lv_aload_n hx hb dX8_begin_5 rfl (lv_at hl 0 rfl) ?_
  refine lv_iload_n hx hb dX8_begin_6 rfl (lv_at hl 2 rfl) ?_
  refine lv_aload_n hx hb dX8_begin_7 rfl (lv_at hl 1 rfl) ?_
  refine va_alen (v := 1700) hx hb hK hP 0 0 rfl rfl rfl dX8_begin_8 ?_
  refine va_mmin hx hb (by rw [hml]; exact hl.1.symm) hown (hts _ mw_609) (hts _ mw_610) (hts _ mw_102) (hts _ mw_611) (Nat.le_of_ble_eq_true rfl) (Nat.le_of_ble_eq_true rfl) (Nat.le_of_ble_eq_true rfl) (Nat.le_of_ble_eq_true rfl) dX8_begin_9 ?_
  refine x_lit 0 (by decide) ?_
  refine va_put (D := (dC, dI)) (ci := 8) (v := .int 0) (ty := .int) (C := RX8) (T := TX8) (N := 9) hx hb hts iwX8 tyX8 tyX8_ok nmX8 hown hK hP hD hS 1 rfl rfl 3 (by decide) (hts _ mw_381) (fun _ h9 => h9) rfl (by decide +kernel) rfl rfl (Nat.le_of_ble_eq_true rfl) dX8_begin_12 (fun H locs hP hD hS => ?_)
  have hP : va_P (dC, dI) CL [(a1, .inl (k0, 1700, .inl f0)), (a0, .inr (8, [.ref a2, .ref a3, .ref a1, .int 0, .int 0, .int 0, .int 0, .int 0, .long 0]))] H := hP
  have hD : va_D A [(a1, .inl (k0, 1700, .inl f0)), (a0, .inr (8, [.ref a2, .ref a3, .ref a1, .int 0, .int 0, .int 0, .int 0, .int 0, .long 0]))] := hD
  refine lv_aload_n hx hb dX8_begin_15 rfl (lv_at hl 0 rfl) ?_
  refine lv_iconst (v := 0) hx hb dX8_begin_16 (by decide) ?_
  refine va_put (D := (dC, dI)) (ci := 8) (v := .int 0) (ty := .int) (C := RX8) (T := TX8) (N := 9) hx hb hts iwX8 tyX8 tyX8_ok nmX8 hown hK hP hD hS 1 rfl rfl 4 (by decide) (hts _ mw_382) (fun _ h9 => h9) rfl (by decide +kernel) rfl rfl (Nat.le_of_ble_eq_true rfl) dX8_begin_17 (fun H locs hP hD hS => ?_)
  have hP : va_P (dC, dI) CL [(a1, .inl (k0, 1700, .inl f0)), (a0, .inr (8, [.ref a2, .ref a3, .ref a1, .int 0, .int 0, .int 0, .int 0, .int 0, .long 0]))] H := hP
  have hD : va_D A [(a1, .inl (k0, 1700, .inl f0)), (a0, .inr (8, [.ref a2, .ref a3, .ref a1, .int 0, .int 0, .int 0, .int 0, .int 0, .long 0]))] := hD
  refine lv_aload_n hx hb dX8_begin_20 rfl (lv_at hl 0 rfl) ?_
  have hPc := hP.sub (ws' := [(a0, .inr (8, [.ref a2, .ref a3, .ref a1, .int 0, .int 0, .int 0, .int 0, .int 0, .long 0]))]) [1] rfl
  have hDc := hD.sub (ws' := [(a0, .inr (8, [.ref a2, .ref a3, .ref a1, .int 0, .int 0, .int 0, .int 0, .int 0, .long 0]))]) [1] (by decide) rfl
  have hKc := hK.sub (tys' := []) [] rfl
  have hFc := va_free (wc := [(a0, .inr (8, [.ref a2, .ref a3, .ref a1, .int 0, .int 0, .int 0, .int 0, .int 0, .long 0]))]) hD hS hA [1] rfl
  refine va_callv (va_runV (As := []) (rest := []) ⟨hx, hb, hml, hown, hts⟩ (zX8_advance l dC dI adK adV H.size a0 a2 a3 a1) (cwV 0 hts (tb_V mw_612 mw_613 mw_614 mw_107 mw_615) rfl rfl rfl (by decide +kernel) ⟨Nat.le_of_ble_eq_true rfl, Nat.le_of_ble_eq_true rfl⟩) ⟨XB, va_recv hKc hPc (ci := 8) (q0 := 0) rfl rfl, XQ (av := [.ref a0]) hPc hKc hDc hC hS hFc⟩ rfl rfl hl.1 rfl (lv_room (Nat.le_of_ble_eq_true rfl)) dX8_begin_21 ⟨Nat.le_of_ble_eq_true rfl, Nat.le_of_ble_eq_true rfl⟩) hS (fun q _ h => hFc q h) hFc (fun u_9 t H1 locs ht hvm hw hB hz1 hk1 hS => ?_)
  try dsimp only at hw
  obtain ⟨hP1, hK1, hD1⟩ := hB
  rw [ht] at hP1
  have hK1 := va_K.moved hvm.symm hK1
  obtain ⟨hP, hD⟩ := va_join (wr := [(a1, .inl (k0, 1700, .inl f0))]) (w1 := [(a0, .inr (8, [.ref a2, .ref a3, .ref a1, .int 0, .int 0, .int 0, .int 0, .int 0, .long 0]))]) hP hD [1] [0] rfl rfl (by decide) (by decide) hk1 hFc hP1 hD1
  have hK := (hK.sub (tys' := [(k0, .byte)]) [0] rfl).app hK1
  generalize H1 = H at hP hS ⊢
  have hP : va_P (dC, dI) CL [(a1, .inl (k0, 1700, .inl f0)), (a0, .inr (8, [.ref a2, .ref a3, .ref a1, .int 0, .int 0, .int 0, .int 0, .int 0, .long 0]))] H := hP
  have hD : va_D A [(a1, .inl (k0, 1700, .inl f0)), (a0, .inr (8, [.ref a2, .ref a3, .ref a1, .int 0, .int 0, .int 0, .int 0, .int 0, .long 0]))] := hD
  have hK : va_K (dC, dI) CL [(k0, .byte)] s := hK
  refine W.widen (k := 0) (n := 0) (Nat.le_of_ble_eq_true rfl) (Nat.le_of_ble_eq_true rfl) ?_
  have hP9 := hP.sub (ws' := [(a1, .inl (k0, 1700, .inl f0)), (a0, .inr (8, [.ref a2, .ref a3, .ref a1, .int 0, .int 0, .int 0, .int 0, .int 0, .long 0]))]) [0, 1] rfl
  have hD9 := hD.sub (ws' := [(a1, .inl (k0, 1700, .inl f0)), (a0, .inr (8, [.ref a2, .ref a3, .ref a1, .int 0, .int 0, .int 0, .int 0, .int 0, .long 0]))]) [0, 1] (by decide) rfl
  have hK9 := hK.sub (tys' := [(k0, .byte)]) [0] rfl
  exact W.vret hx hb hr (fun t ht hW => ⟨⟨(), rfl, trivial, by rw [ht]; exact hP9, va_K.moved hW.alike hK9, hD9⟩, hS.F ht⟩) hS.2.2 dX8_begin_24
set_option maxHeartbeats 4000000 in
set_option maxRecDepth 100000 in
theorem zX1_read (l : Launch) (dC : Nat → ClassId) (dI : Nat → Nat → Nat) (adK adV : Nat → Nat) (sz : Nat) (a0 : Nat) (a1 : Nat) (a2 : Nat) (k0 : ClassId) (f0 : Nat → Int32) (a3 : Nat) (a4 : Nat) (a5 : Nat) (a6 : Nat) (a7 : Nat) : Met l yX1_read (Cond.code yX1_read cX1_read 5 (some .boolean) :: TB) ({ frames := 4, cells := 0, slots := 0, locals := 164 }) (XP (dC, dI) adK adV [.ref a0, .ref a1, .int 0, .ref a2] sz [(a1, .inl (k0, 1700, .inl f0)), (a0, .inr (1, [.ref a3, .ref a2, .ref a4, .int 0, .int (-1)])), (a3, .inr (8, [.ref a5, .ref a6, .ref a7, .int 0, .int 0, .int 0, .int 0, .int 0, .long 0]))] [(k0, .byte)]) (va_Qi (fun (r : Int32) (_ : Unit) => r = 1) (fun _ t => va_P (dC, dI) CL [(a0, .inr (1, [.ref a3, .ref a2, .ref a4, .int 0, .int (-1)])), (a1, .inl (k0, 1700, .inl f0)), (a3, .inr (8, [.ref a5, .ref a6, .ref a1, .int 0, .int 0, .int 0, .int 0, .int 0, .long 0]))] t.heap ∧ va_K (dC, dI) CL [(k0, .byte)] t ∧ va_D (va_A [(a1, .inl (k0, 1700, .inl f0)), (a0, .inr (1, [.ref a3, .ref a2, .ref a4, .int 0, .int (-1)])), (a3, .inr (8, [.ref a5, .ref a6, .ref a7, .int 0, .int 0, .int 0, .int 0, .int 0, .long 0]))] sz) [(a0, .inr (1, [.ref a3, .ref a2, .ref a4, .int 0, .int (-1)])), (a1, .inl (k0, 1700, .inl f0)), (a3, .inr (8, [.ref a5, .ref a6, .ref a1, .int 0, .int 0, .int 0, .int 0, .int 0, .long 0]))]) (va_A [(a1, .inl (k0, 1700, .inl f0)), (a0, .inr (1, [.ref a3, .ref a2, .ref a4, .int 0, .int (-1)])), (a3, .inr (8, [.ref a5, .ref a6, .ref a7, .int 0, .int 0, .int 0, .int 0, .int 0, .long 0]))] sz)) 0 0 (va_A [(a1, .inl (k0, 1700, .inl f0)), (a0, .inr (1, [.ref a3, .ref a2, .ref a4, .int 0, .int (-1)])), (a3, .inr (8, [.ref a5, .ref a6, .ref a7, .int 0, .int 0, .int 0, .int 0, .int 0, .long 0]))] sz) := by
  refine Met.ofW (cc := cX1_read) (maxL := 5) (ret := (some .boolean)) (by decide) rfl ?_
  intro p e s m args below meth c s₁ B hml hv
  obtain ⟨rfl, hsz, hP, hK, hD0, hC⟩ := hv
  have hx := B.exec
  have hb := B.bytes
  have hr := B.returns
  have hts0 := atoms_spec (ws := Cond.code yX1_read cX1_read 5 (some .boolean) :: TB) B.pre
  have hts : ∀ w ∈ TB, w.before _ s = true := fun w h => hts0 w (List.mem_cons_of_mem _ h)
  have hown : s.vm.findClass RX1 = some m.cls := findClass_of_methodNamed B.named
  have hlocks := B.notSynchronized
  subst hsz
  have hD := hD0.self (sz := s.heap.size)
  generalize hAe : va_A [(a1, .inl (k0, 1700, .inl f0)), (a0, .inr (1, [.ref a3, .ref a2, .ref a4, .int 0, .int (-1)])), (a3, .inr (8, [.ref a5, .ref a6, .ref a7, .int 0, .int 0, .int 0, .int 0, .int 0, .long 0]))] s.heap.size = A at hD hC ⊢
  have hA : ∀ q : Nat, s.heap.size ≤ q → A q := fun q h => by rw [← hAe]; exact Or.inr h
  have hl := lv_entry ([.ref a0, .ref a1, .int 0, .ref a2]) (n := 5) (Nat.le_of_ble_eq_true rfl)
  rw [lg_entry_eq]
  generalize (lg_sl ([.ref a0, .ref a1, .int 0, .ref a2]) ++ List.replicate (5 - (lg_sl ([.ref a0, .ref a1, .int 0, .ref a2])).length) Slot.unset).toArray = ls at hl ⊢
  have hl : lv_has ls 5 [(0, .ref a0), (1, .ref a1), (2, .int 0), (3, .ref a2)] := hl
  have hP : va_P (dC, dI) CL [(a1, .inl (k0, 1700, .inl f0)), (a0, .inr (1, [.ref a3, .ref a2, .ref a4, .int 0, .int (-1)])), (a3, .inr (8, [.ref a5, .ref a6, .ref a7, .int 0, .int 0, .int 0, .int 0, .int 0, .long 0]))] s.heap := hP
  obtain ⟨H, hH⟩ : ∃ z, z = s.heap := ⟨_, rfl⟩
  rw [← hH] at hP ⊢
  have hS : va_S A s.heap H [] := by rw [hH]; exact va_S.rf
  refine lv_aload_n hx hb dX1_read_0 rfl (lv_at hl 0 rfl) ?_
  refine lv_aload_n hx hb dX1_read_1 rfl (lv_at hl 3 rfl) ?_
  refine va_put (D := (dC, dI)) (ci := 1) (v := .ref a2) (ty := .object "HalfCourt$CaseFile") (C := RX1) (T := TX1) (N := 5) hx hb hts iwX1 tyX1 tyX1_ok nmX1 hown hK hP hD hS 1 rfl rfl 1 (by decide) (hts _ mw_413) (fun _ h9 => h9) rfl (by decide +kernel) rfl rfl (Nat.le_of_ble_eq_true rfl) dX1_read_2 (fun H locs hP hD hS => ?_)
  have hP : va_P (dC, dI) CL [(a1, .inl (k0, 1700, .inl f0)), (a0, .inr (1, [.ref a3, .ref a2, .ref a4, .int 0, .int (-1)])), (a3, .inr (8, [.ref a5, .ref a6, .ref a7, .int 0, .int 0, .int 0, .int 0, .int 0, .long 0]))] H := hP
  have hD : va_D A [(a1, .inl (k0, 1700, .inl f0)), (a0, .inr (1, [.ref a3, .ref a2, .ref a4, .int 0, .int (-1)])), (a3, .inr (8, [.ref a5, .ref a6, .ref a7, .int 0, .int 0, .int 0, .int 0, .int 0, .long 0]))] := hD
  refine lv_aload_n hx hb dX1_read_5 rfl (lv_at hl 0 rfl) ?_
  refine lv_iconst (v := 0) hx hb dX1_read_6 (by decide) ?_
  refine va_put (D := (dC, dI)) (ci := 1) (v := .int 0) (ty := .int) (C := RX1) (T := TX1) (N := 5) hx hb hts iwX1 tyX1 tyX1_ok nmX1 hown hK hP hD hS 1 rfl rfl 3 (by decide) (hts _ mw_415) (fun _ h9 => h9) rfl (by decide +kernel) rfl rfl (Nat.le_of_ble_eq_true rfl) dX1_read_7 (fun H locs hP hD hS => ?_)
  have hP : va_P (dC, dI) CL [(a1, .inl (k0, 1700, .inl f0)), (a0, .inr (1, [.ref a3, .ref a2, .ref a4, .int 0, .int (-1)])), (a3, .inr (8, [.ref a5, .ref a6, .ref a7, .int 0, .int 0, .int 0, .int 0, .int 0, .long 0]))] H := hP
  have hD : va_D A [(a1, .inl (k0, 1700, .inl f0)), (a0, .inr (1, [.ref a3, .ref a2, .ref a4, .int 0, .int (-1)])), (a3, .inr (8, [.ref a5, .ref a6, .ref a7, .int 0, .int 0, .int 0, .int 0, .int 0, .long 0]))] := hD
  refine lv_aload_n hx hb dX1_read_10 rfl (lv_at hl 0 rfl) ?_
  refine lv_iconst (v := (-1)) hx hb dX1_read_11 (by decide) ?_
  refine va_put (D := (dC, dI)) (ci := 1) (v := .int (-1)) (ty := .int) (C := RX1) (T := TX1) (N := 5) hx hb hts iwX1 tyX1 tyX1_ok nmX1 hown hK hP hD hS 1 rfl rfl 4 (by decide) (hts _ mw_417) (fun _ h9 => h9) rfl (by decide +kernel) rfl rfl (Nat.le_of_ble_eq_true rfl) dX1_read_12 (fun H locs hP hD hS => ?_)
  have hP : va_P (dC, dI) CL [(a1, .inl (k0, 1700, .inl f0)), (a0, .inr (1, [.ref a3, .ref a2, .ref a4, .int 0, .int (-1)])), (a3, .inr (8, [.ref a5, .ref a6, .ref a7, .int 0, .int 0, .int 0, .int 0, .int 0, .long 0]))] H := hP
  have hD : va_D A [(a1, .inl (k0, 1700, .inl f0)), (a0, .inr (1, [.ref a3, .ref a2, .ref a4, .int 0, .int (-1)])), (a3, .inr (8, [.ref a5, .ref a6, .ref a7, .int 0, .int 0, .int 0, .int 0, .int 0, .long 0]))] := hD
  refine lv_aload_n hx hb dX1_read_15 rfl (lv_at hl 0 rfl) ?_
  refine va_get (D := (dC, dI)) (ci := 1) (v := .ref a3) (C := RX1) (T := TX1) (N := 5) hx hb hts iwX1 hown hK hP 1 rfl rfl 0 (by decide) (hts _ mw_412) (fun _ h9 => h9) rfl dX1_read_16 ?_
  refine lv_aload_n hx hb dX1_read_19 rfl (lv_at hl 1 rfl) ?_
  refine lv_iload_n hx hb dX1_read_20 rfl (lv_at hl 2 rfl) ?_
  have hPc := hP.sub (ws' := [(a1, .inl (k0, 1700, .inl f0)), (a3, .inr (8, [.ref a5, .ref a6, .ref a7, .int 0, .int 0, .int 0, .int 0, .int 0, .long 0]))]) [0, 2] rfl
  have hDc := hD.sub (ws' := [(a1, .inl (k0, 1700, .inl f0)), (a3, .inr (8, [.ref a5, .ref a6, .ref a7, .int 0, .int 0, .int 0, .int 0, .int 0, .long 0]))]) [0, 2] (by decide) rfl
  have hKc := hK.sub (tys' := [(k0, .byte)]) [0] rfl
  have hFc := va_free (wc := [(a1, .inl (k0, 1700, .inl f0)), (a3, .inr (8, [.ref a5, .ref a6, .ref a7, .int 0, .int 0, .int 0, .int 0, .int 0, .long 0]))]) hD hS hA [0, 2] rfl
  refine va_callv (va_runV (As := [.ref a1, .int 0]) (rest := []) ⟨hx, hb, hml, hown, hts⟩ (zX8_begin l dC dI adK adV H.size a3 a1 k0 f0 a5 a6 a7) (cwV 2 hts (tb_V mw_605 mw_606 mw_607 mw_107 mw_608) rfl rfl rfl (by decide +kernel) ⟨Nat.le_of_ble_eq_true rfl, Nat.le_of_ble_eq_true rfl⟩) ⟨XB, va_recv hKc hPc (ci := 8) (q0 := 1) rfl rfl, XQ (av := [.ref a3, .ref a1, .int 0]) hPc hKc hDc hC hS hFc⟩ rfl rfl hl.1 rfl (lv_room (Nat.le_of_ble_eq_true rfl)) dX1_read_21 ⟨Nat.le_of_ble_eq_true rfl, Nat.le_of_ble_eq_true rfl⟩) hS (fun q _ h => hFc q h) hFc (fun u_9 t H1 locs ht hvm hw hB hz1 hk1 hS => ?_)
  try dsimp only at hw
  obtain ⟨hP1, hK1, hD1⟩ := hB
  rw [ht] at hP1
  have hK1 := va_K.moved hvm.symm hK1
  obtain ⟨hP, hD⟩ := va_join (wr := [(a0, .inr (1, [.ref a3, .ref a2, .ref a4, .int 0, .int (-1)]))]) (w1 := [(a1, .inl (k0, 1700, .inl f0)), (a3, .inr (8, [.ref a5, .ref a6, .ref a1, .int 0, .int 0, .int 0, .int 0, .int 0, .long 0]))]) hP hD [0, 2] [1] rfl rfl (by decide) (by decide) hk1 hFc hP1 hD1
  have hK := (hK.sub (tys' := []) [] rfl).app hK1
  generalize H1 = H at hP hS ⊢
  have hP : va_P (dC, dI) CL [(a0, .inr (1, [.ref a3, .ref a2, .ref a4, .int 0, .int (-1)])), (a1, .inl (k0, 1700, .inl f0)), (a3, .inr (8, [.ref a5, .ref a6, .ref a1, .int 0, .int 0, .int 0, .int 0, .int 0, .long 0]))] H := hP
  have hD : va_D A [(a0, .inr (1, [.ref a3, .ref a2, .ref a4, .int 0, .int (-1)])), (a1, .inl (k0, 1700, .inl f0)), (a3, .inr (8, [.ref a5, .ref a6, .ref a1, .int 0, .int 0, .int 0, .int 0, .int 0, .long 0]))] := hD
  have hK : va_K (dC, dI) CL [(k0, .byte)] s := hK
  refine lv_iconst (v := 0) hx hb dX1_read_24 (by decide) ?_
  refine lv_istore (lv' := [(4, .int 0), (0, .ref a0), (1, .ref a1), (2, .int 0), (3, .ref a2)]) hx hb dX1_read_25 hl (by decide) rfl (fun ls hl => ?_)
  refine lv_iload hx hb dX1_read_27 (lv_at hl 0 rfl) ?_
  refine lv_sipush (v := 1700) hx hb dX1_read_29 (by decide) ?_
  refine lv_icmp_gt (tgt := 82) hx hb dX1_read_32 (by decide) (fun h => absurd h (by decide)) (fun _ => ?_)
  refine lv_aload_n hx hb dX1_read_35 rfl (lv_at hl 1 rfl) ?_
  refine va_get (D := (dC, dI)) (ci := 1) (v := .ref a3) (C := RX1) (T := TX1) (N := 5) hx hb hts iwX1 hown hK hP 0 rfl rfl 0 (by decide) (hts _ mw_412) (fun _ h9 => h9) rfl dX1_read_36 ?_
  refine va_get (D := (dC, dI)) (ci := 8) (v := .int 0) (C := RX8) (T := TX8) (N := 9) hx hb hts iwX8 hown hK hP 2 rfl rfl 5 (by decide) (hts _ mw_384) (fun _ h9 => h9) rfl dX1_read_39 ?_
  refine lv_if_eq (tgt := 82) hx hb dX1_read_42 (by decide) (fun _ => ?_) (fun h => (h (by decide)).elim)
  refine lv_iconst (v := 1) hx hb dX1_read_82 (by decide) ?_
  refine W.widen (k := 0) (n := 0) (Nat.le_of_ble_eq_true rfl) (Nat.le_of_ble_eq_true rfl) ?_
  have hP9 := hP.sub (ws' := [(a0, .inr (1, [.ref a3, .ref a2, .ref a4, .int 0, .int (-1)])), (a1, .inl (k0, 1700, .inl f0)), (a3, .inr (8, [.ref a5, .ref a6, .ref a1, .int 0, .int 0, .int 0, .int 0, .int 0, .long 0]))]) [0, 1, 2] rfl
  have hD9 := hD.sub (ws' := [(a0, .inr (1, [.ref a3, .ref a2, .ref a4, .int 0, .int (-1)])), (a1, .inl (k0, 1700, .inl f0)), (a3, .inr (8, [.ref a5, .ref a6, .ref a1, .int 0, .int 0, .int 0, .int 0, .int 0, .long 0]))]) [0, 1, 2] (by decide) rfl
  have hK9 := hK.sub (tys' := [(k0, .byte)]) [0] rfl
  exact W.zret (v := 1) hx hb hr (by decide) (fun t ht hW => ⟨⟨1, (), rfl, rfl, by rw [ht]; exact hP9, va_K.moved hW.alike hK9, hD9⟩, hS.F ht⟩) hS.2.2 dX1_read_83
set_option maxHeartbeats 4000000 in
set_option maxRecDepth 100000 in
theorem lpJ7_fill_d0a16_6 {p : Program} {l : Launch} {e : Env} {s : State} {m : MethodId} {args : Array Value} {below : List Frame} {meth : Method} {c : Code} {Q : State → Prop} {dC : Nat → ClassId} {dI : Nat → Nat → Nat} {adK adV : Nat → Nat} {A : Nat → Prop} {a0 : Nat} {k0 : ClassId} (hx : p.tables.exec = Jvm.exec) (hb : c.code = cJ7_fill_d0a16) (hml : c.maxLocals = 5) (hown : s.vm.findClass RJ7 = some m.cls) (hts : ∀ w ∈ TB, w.before args s = true) (hC : XC adK adV A s s.heap) (hA : ∀ q : Nat, s.heap.size ≤ q → A q) (hK : va_K (dC, dI) CL [(k0, .long)] s) (kk : ∀ (g0 : Nat → Int64) (H : Heap) (locs : List Loc) (ls : Array Slot), va_P (dC, dI) CL [(a0, .inl (k0, 5, .inr (.inl g0)))] H → va_D A [(a0, .inl (k0, 5, .inr (.inl g0)))] → va_S A s.heap H locs → lv_has ls 5 [(4, .int 5), (3, .int 5), (0, .ref a0), (1, .long 0)] → W p l e (headSpec (Cond.code yJ7_fill_d0a16 cJ7_fill_d0a16 5 none :: TB) ({ frames := 1, cells := 0, slots := 0, locals := 100 })).room s m args below meth c H locs 0 0 Q (F0 m 6 ls [])) : ∀ (n i : Nat), i + n = 5 → ∀ (g0 : Nat → Int64) (H : Heap) (locs : List Loc) (ls : Array Slot), va_P (dC, dI) CL [(a0, .inl (k0, 5, .inr (.inl g0)))] H → va_D A [(a0, .inl (k0, 5, .inr (.inl g0)))] → va_S A s.heap H locs → lv_has ls 5 [(4, .int 5), (3, .int (nI i)), (0, .ref a0), (1, .long 0)] → W p l e (headSpec (Cond.code yJ7_fill_d0a16 cJ7_fill_d0a16 5 none :: TB) ({ frames := 1, cells := 0, slots := 0, locals := 100 })).room s m args below meth c H locs 0 0 Q (F0 m 6 ls []) := by
  intro n
  induction n with
  | zero =>
    intro i hi g0  H locs ls hP hD hS hl
    have hi : i = 5 := by omega
    subst hi
    exact kk g0  H locs ls hP hD hS hl
  | succ n ih =>
    intro i hi g0  H locs ls hP hD hS hl
    have hlt : i < 5 := by omega
    refine lv_iload_n hx hb dJ7_fill_d0a16_6 rfl (lv_at hl 1 rfl) ?_
    refine lv_iload hx hb dJ7_fill_d0a16_7 (lv_at hl 0 rfl) ?_
    refine lv_icmp_ge (tgt := 22) hx hb dJ7_fill_d0a16_9 (by decide) (fun h => absurd h (nI_ge (a := i) (b := 5) hlt (by decide))) (fun _ => ?_)
    refine lv_aload_n hx hb dJ7_fill_d0a16_12 rfl (lv_at hl 2 rfl) ?_
    refine lv_iload_n hx hb dJ7_fill_d0a16_13 rfl (lv_at hl 1 rfl) ?_
    refine lv_lload_n hx hb dJ7_fill_d0a16_14 rfl (lv_at hl 3 rfl) ?_
    refine xh_last hx hb hK hP hD hS 0 0 rfl rfl (vp_in_nI (by omega) (by decide)) dJ7_fill_d0a16_15 (fun f_501 H locs hP hD hS => ?_)
    have hP : va_P (dC, dI) CL [(a0, .inl (k0, 5, .inr (.inl f_501)))] H := hP
    have hD : va_D A [(a0, .inl (k0, 5, .inr (.inl f_501)))] := hD
    refine lv_iinc (v := (nI (i + 1))) (lv' := [(3, .int (nI (i + 1))), (4, .int 5), (0, .ref a0), (1, .long 0)]) hx hb dJ7_fill_d0a16_16 hl (k := 1) rfl (nI_1 _) (by decide) rfl (fun ls hl => ?_)
    refine lv_goto (tgt := 6) hx hb dJ7_fill_d0a16_19 (by decide) ?_
    exact ih (i + 1) (by omega) f_501 _ _ _ (hP.sub [0] rfl) (hD.sub [0] (by decide) rfl) hS (lv_sub hl [1, 0, 2, 3] rfl)
set_option maxHeartbeats 4000000 in
set_option maxRecDepth 100000 in
theorem zJ7_fill_d0a16 (l : Launch) (dC : Nat → ClassId) (dI : Nat → Nat → Nat) (adK adV : Nat → Nat) (sz : Nat) (a0 : Nat) (k0 : ClassId) : Met l yJ7_fill_d0a16 (Cond.code yJ7_fill_d0a16 cJ7_fill_d0a16 5 none :: TB) ({ frames := 1, cells := 0, slots := 0, locals := 100 }) (XP (dC, dI) adK adV [.ref a0, .long 0] sz [(a0, .inl (k0, 5, .inr (.inl (fun _ => 0))))] [(k0, .long)]) (va_Qv (fun _ : Unit => True) (fun _ t => ∃ f_1 : Nat → Int64, va_P (dC, dI) CL [(a0, .inl (k0, 5, .inr (.inl f_1)))] t.heap ∧ va_K (dC, dI) CL [(k0, .long)] t ∧ va_D (va_A [(a0, .inl (k0, 5, .inr (.inl (fun _ => 0))))] sz) [(a0, .inl (k0, 5, .inr (.inl f_1)))]) (va_A [(a0, .inl (k0, 5, .inr (.inl (fun _ => 0))))] sz)) 0 0 (va_A [(a0, .inl (k0, 5, .inr (.inl (fun _ => 0))))] sz) := by
  refine Met.ofW (cc := cJ7_fill_d0a16) (maxL := 5) (ret := none) (by decide) rfl ?_
  intro p e s m args below meth c s₁ B hml hv
  obtain ⟨rfl, hsz, hP, hK, hD0, hC⟩ := hv
  have hx := B.exec
  have hb := B.bytes
  have hr := B.returns
  have hts0 := atoms_spec (ws := Cond.code yJ7_fill_d0a16 cJ7_fill_d0a16 5 none :: TB) B.pre
  have hts : ∀ w ∈ TB, w.before _ s = true := fun w h => hts0 w (List.mem_cons_of_mem _ h)
  have hown : s.vm.findClass RJ7 = some m.cls := findClass_of_methodNamed B.named
  have hlocks := B.notSynchronized
  subst hsz
  have hD := hD0.self (sz := s.heap.size)
  generalize hAe : va_A [(a0, .inl (k0, 5, .inr (.inl (fun _ => 0))))] s.heap.size = A at hD hC ⊢
  have hA : ∀ q : Nat, s.heap.size ≤ q → A q := fun q h => by rw [← hAe]; exact Or.inr h
  have hl := lv_entry ([.ref a0, .long 0]) (n := 5) (Nat.le_of_ble_eq_true rfl)
  rw [lg_entry_eq]
  generalize (lg_sl ([.ref a0, .long 0]) ++ List.replicate (5 - (lg_sl ([.ref a0, .long 0])).length) Slot.unset).toArray = ls at hl ⊢
  have hl : lv_has ls 5 [(0, .ref a0), (1, .long 0)] := hl
  have hP : va_P (dC, dI) CL [(a0, .inl (k0, 5, .inr (.inl (fun _ => 0))))] s.heap := hP
  obtain ⟨H, hH⟩ : ∃ z, z = s.heap := ⟨_, rfl⟩
  rw [← hH] at hP ⊢
  have hS : va_S A s.heap H [] := by rw [hH]; exact va_S.rf
  refine lv_iconst (v := 0) hx hb dJ7_fill_d0a16_0 (by decide) ?_
  refine lv_istore_n (lv' := [(3, .int 0), (0, .ref a0), (1, .long 0)]) hx hb dJ7_fill_d0a16_1 rfl hl (by decide) rfl (fun ls hl => ?_)
  refine lv_aload_n hx hb dJ7_fill_d0a16_2 rfl (lv_at hl 1 rfl) ?_
  refine va_alen (v := 5) hx hb hK hP 0 0 rfl rfl rfl dJ7_fill_d0a16_3 ?_
  refine lv_istore (lv' := [(4, .int 5), (3, .int 0), (0, .ref a0), (1, .long 0)]) hx hb dJ7_fill_d0a16_4 hl (by decide) rfl (fun ls hl => ?_)
  refine lpJ7_fill_d0a16_6 hx hb hml hown hts hC hA hK (fun f_1 H locs ls hP hD hS hl => ?_) 5 0 rfl (fun _ => 0) _ _ _ hP hD hS (lv_sub hl [0, 1, 2, 3] rfl)
  have hP : va_P (dC, dI) CL [(a0, .inl (k0, 5, .inr (.inl f_1)))] H := hP
  have hD : va_D A [(a0, .inl (k0, 5, .inr (.inl f_1)))] := hD
  have hl : lv_has ls 5 [(4, .int 5), (3, .int 5), (0, .ref a0), (1, .long 0)] := hl
  refine lv_iload_n hx hb dJ7_fill_d0a16_6 rfl (lv_at hl 1 rfl) ?_
  refine lv_iload hx hb dJ7_fill_d0a16_7 (lv_at hl 0 rfl) ?_
  refine lv_icmp_ge (tgt := 22) hx hb dJ7_fill_d0a16_9 (by decide) (fun _ => ?_) (fun h => (h (by decide)).elim)
  refine W.widen (k := 0) (n := 0) (Nat.le_of_ble_eq_true rfl) (Nat.le_of_ble_eq_true rfl) ?_
  have hP9 := hP.sub (ws' := [(a0, .inl (k0, 5, .inr (.inl f_1)))]) [0] rfl
  have hD9 := hD.sub (ws' := [(a0, .inl (k0, 5, .inr (.inl f_1)))]) [0] (by decide) rfl
  have hK9 := hK.sub (tys' := [(k0, .long)]) [0] rfl
  exact W.vret hx hb hr (fun t ht hW => ⟨⟨(), rfl, trivial, f_1, by rw [ht]; exact hP9, va_K.moved hW.alike hK9, hD9⟩, hS.F ht⟩) hS.2.2 dJ7_fill_d0a16_22
set_option maxHeartbeats 4000000 in
set_option maxRecDepth 100000 in
theorem zX2_compareDeeds (l : Launch) (dC : Nat → ClassId) (dI : Nat → Nat → Nat) (adK adV : Nat → Nat) (sz : Nat) (a0 : Nat) (a1 : Nat) (a2 : Nat) (a3 : Nat) (a4 : Nat) (a5 : Nat) (a6 : Nat) (a7 : Nat) (a8 : Nat) (a9 : Nat) (a10 : Nat) (a11 : Nat) (a12 : Nat) (a13 : Nat) (a14 : Nat) (a15 : Nat) : Met l yX2_compareDeeds (Cond.code yX2_compareDeeds cX2_compareDeeds 4 none :: TB) ({ frames := 1, cells := 0, slots := 0, locals := 100 }) (XP (dC, dI) adK adV [.ref a0] sz [(a0, .inr (2, [.ref a1, .ref a2, .ref a3, .ref a4, .ref a5, .int 0, .int 0, .ref a6, .ref a7, .long 0, .int 0, .int 0, .int 0, .int (-1)])), (a1, .inr (0, [.int 0, .int 0, .int 0, .int 0, .int 0, .int 0, .long 0, .ref a8, .ref a9, .ref a10, .ref a11, .ref a12, .ref a13, .ref a14])), (a10, .inr (5, [.ref a15, .int 0]))] []) (va_Qv (fun _ : Unit => True) (fun _ t => va_P (dC, dI) CL [(a0, .inr (2, [.ref a1, .ref a2, .ref a3, .ref a4, .ref a5, .int 0, .int 0, .ref a6, .ref a7, .long 0, .int 0, .int 0, .int 0, .int (-1)])), (a1, .inr (0, [.int 0, .int 0, .int 0, .int 0, .int 0, .int 0, .long 0, .ref a8, .ref a9, .ref a10, .ref a11, .ref a12, .ref a13, .ref a14])), (a10, .inr (5, [.ref a15, .int 0]))] t.heap ∧ va_K (dC, dI) CL [] t ∧ va_D (va_A [(a0, .inr (2, [.ref a1, .ref a2, .ref a3, .ref a4, .ref a5, .int 0, .int 0, .ref a6, .ref a7, .long 0, .int 0, .int 0, .int 0, .int (-1)])), (a1, .inr (0, [.int 0, .int 0, .int 0, .int 0, .int 0, .int 0, .long 0, .ref a8, .ref a9, .ref a10, .ref a11, .ref a12, .ref a13, .ref a14])), (a10, .inr (5, [.ref a15, .int 0]))] sz) [(a0, .inr (2, [.ref a1, .ref a2, .ref a3, .ref a4, .ref a5, .int 0, .int 0, .ref a6, .ref a7, .long 0, .int 0, .int 0, .int 0, .int (-1)])), (a1, .inr (0, [.int 0, .int 0, .int 0, .int 0, .int 0, .int 0, .long 0, .ref a8, .ref a9, .ref a10, .ref a11, .ref a12, .ref a13, .ref a14])), (a10, .inr (5, [.ref a15, .int 0]))]) (va_A [(a0, .inr (2, [.ref a1, .ref a2, .ref a3, .ref a4, .ref a5, .int 0, .int 0, .ref a6, .ref a7, .long 0, .int 0, .int 0, .int 0, .int (-1)])), (a1, .inr (0, [.int 0, .int 0, .int 0, .int 0, .int 0, .int 0, .long 0, .ref a8, .ref a9, .ref a10, .ref a11, .ref a12, .ref a13, .ref a14])), (a10, .inr (5, [.ref a15, .int 0]))] sz)) 0 0 (va_A [(a0, .inr (2, [.ref a1, .ref a2, .ref a3, .ref a4, .ref a5, .int 0, .int 0, .ref a6, .ref a7, .long 0, .int 0, .int 0, .int 0, .int (-1)])), (a1, .inr (0, [.int 0, .int 0, .int 0, .int 0, .int 0, .int 0, .long 0, .ref a8, .ref a9, .ref a10, .ref a11, .ref a12, .ref a13, .ref a14])), (a10, .inr (5, [.ref a15, .int 0]))] sz) := by
  refine Met.ofW (cc := cX2_compareDeeds) (maxL := 4) (ret := none) (by decide) rfl ?_
  intro p e s m args below meth c s₁ B hml hv
  obtain ⟨rfl, hsz, hP, hK, hD0, hC⟩ := hv
  have hx := B.exec
  have hb := B.bytes
  have hr := B.returns
  have hts0 := atoms_spec (ws := Cond.code yX2_compareDeeds cX2_compareDeeds 4 none :: TB) B.pre
  have hts : ∀ w ∈ TB, w.before _ s = true := fun w h => hts0 w (List.mem_cons_of_mem _ h)
  have hown : s.vm.findClass RX2 = some m.cls := findClass_of_methodNamed B.named
  have hlocks := B.notSynchronized
  subst hsz
  have hD := hD0.self (sz := s.heap.size)
  generalize hAe : va_A [(a0, .inr (2, [.ref a1, .ref a2, .ref a3, .ref a4, .ref a5, .int 0, .int 0, .ref a6, .ref a7, .long 0, .int 0, .int 0, .int 0, .int (-1)])), (a1, .inr (0, [.int 0, .int 0, .int 0, .int 0, .int 0, .int 0, .long 0, .ref a8, .ref a9, .ref a10, .ref a11, .ref a12, .ref a13, .ref a14])), (a10, .inr (5, [.ref a15, .int 0]))] s.heap.size = A at hD hC ⊢
  have hA : ∀ q : Nat, s.heap.size ≤ q → A q := fun q h => by rw [← hAe]; exact Or.inr h
  have hl := lv_entry ([.ref a0]) (n := 4) (Nat.le_of_ble_eq_true rfl)
  rw [lg_entry_eq]
  generalize (lg_sl ([.ref a0]) ++ List.replicate (4 - (lg_sl ([.ref a0])).length) Slot.unset).toArray = ls at hl ⊢
  have hl : lv_has ls 4 [(0, .ref a0)] := hl
  have hP : va_P (dC, dI) CL [(a0, .inr (2, [.ref a1, .ref a2, .ref a3, .ref a4, .ref a5, .int 0, .int 0, .ref a6, .ref a7, .long 0, .int 0, .int 0, .int 0, .int (-1)])), (a1, .inr (0, [.int 0, .int 0, .int 0, .int 0, .int 0, .int 0, .long 0, .ref a8, .ref a9, .ref a10, .ref a11, .ref a12, .ref a13, .ref a14])), (a10, .inr (5, [.ref a15, .int 0]))] s.heap := hP
  obtain ⟨H, hH⟩ : ∃ z, z = s.heap := ⟨_, rfl⟩
  rw [← hH] at hP ⊢
  have hS : va_S A s.heap H [] := by rw [hH]; exact va_S.rf
  refine lv_iconst (v := 0) hx hb dX2_compareDeeds_0 (by decide) ?_
  refine lv_istore_n (lv' := [(1, .int 0), (0, .ref a0)]) hx hb dX2_compareDeeds_1 rfl hl (by decide) rfl (fun ls hl => ?_)
  refine lv_iload_n hx hb dX2_compareDeeds_2 rfl (lv_at hl 0 rfl) ?_
  refine lv_aload_n hx hb dX2_compareDeeds_3 rfl (lv_at hl 1 rfl) ?_
  refine va_get (D := (dC, dI)) (ci := 2) (v := .ref a1) (C := RX2) (T := TX2) (N := 14) hx hb hts iwX2 hown hK hP 0 rfl rfl 0 (by decide) (hts _ mw_438) (fun _ h9 => h9) rfl dX2_compareDeeds_4 ?_
  refine va_get (D := (dC, dI)) (ci := 0) (v := .ref a10) (C := RX0) (T := TX0) (N := 14) hx hb hts iwX0 hown hK hP 1 rfl rfl 9 (by decide) (hts _ mw_261) (fun _ h9 => h9) rfl dX2_compareDeeds_7 ?_
  refine va_get (D := (dC, dI)) (ci := 5) (v := .int 0) (C := RX5) (T := TX5) (N := 2) hx hb hts iwX5 hown hK hP 2 rfl rfl 1 (by decide) (hts _ mw_145) (fun _ h9 => h9) rfl dX2_compareDeeds_10 ?_
  refine lv_icmp_ge (tgt := 84) hx hb dX2_compareDeeds_13 (by decide) (fun _ => ?_) (fun h => (h (by decide)).elim)
  refine W.widen (k := 0) (n := 0) (Nat.le_of_ble_eq_true rfl) (Nat.le_of_ble_eq_true rfl) ?_
  have hP9 := hP.sub (ws' := [(a0, .inr (2, [.ref a1, .ref a2, .ref a3, .ref a4, .ref a5, .int 0, .int 0, .ref a6, .ref a7, .long 0, .int 0, .int 0, .int 0, .int (-1)])), (a1, .inr (0, [.int 0, .int 0, .int 0, .int 0, .int 0, .int 0, .long 0, .ref a8, .ref a9, .ref a10, .ref a11, .ref a12, .ref a13, .ref a14])), (a10, .inr (5, [.ref a15, .int 0]))]) [0, 1, 2] rfl
  have hD9 := hD.sub (ws' := [(a0, .inr (2, [.ref a1, .ref a2, .ref a3, .ref a4, .ref a5, .int 0, .int 0, .ref a6, .ref a7, .long 0, .int 0, .int 0, .int 0, .int (-1)])), (a1, .inr (0, [.int 0, .int 0, .int 0, .int 0, .int 0, .int 0, .long 0, .ref a8, .ref a9, .ref a10, .ref a11, .ref a12, .ref a13, .ref a14])), (a10, .inr (5, [.ref a15, .int 0]))]) [0, 1, 2] (by decide) rfl
  have hK9 := hK.sub (tys' := []) [] rfl
  exact W.vret hx hb hr (fun t ht hW => ⟨⟨(), rfl, trivial, by rw [ht]; exact hP9, va_K.moved hW.alike hK9, hD9⟩, hS.F ht⟩) hS.2.2 dX2_compareDeeds_84
set_option maxHeartbeats 4000000 in
set_option maxRecDepth 100000 in
theorem zX2_hold (l : Launch) (dC : Nat → ClassId) (dI : Nat → Nat → Nat) (adK adV : Nat → Nat) (sz : Nat) (a0 : Nat) (a1 : Nat) (a2 : Nat) (a3 : Nat) (a4 : Nat) (a5 : Nat) (a6 : Nat) (a7 : Nat) (a8 : Nat) (k0 : ClassId) (a9 : Nat) (a10 : Nat) (a11 : Nat) (a12 : Nat) (a13 : Nat) (a14 : Nat) (a15 : Nat) (a16 : Nat) (a17 : Nat) : Met l yX2_hold (Cond.code yX2_hold cX2_hold 3 none :: TB) ({ frames := 2, cells := 0, slots := 0, locals := 124 }) (XP (dC, dI) adK adV [.ref a0, .ref a1] sz [(a0, .inr (2, [.ref a2, .ref a3, .ref a4, .ref a5, .ref a6, .int 0, .int 0, .ref a7, .ref a8, .long 0, .int 0, .int 0, .int 0, .int (-1)])), (a4, .inl (k0, 5, .inr (.inl (fun _ => 0)))), (a1, .inr (0, [.int 0, .int 0, .int 0, .int 0, .int 0, .int 0, .long 0, .ref a9, .ref a10, .ref a11, .ref a12, .ref a13, .ref a14, .ref a15])), (a11, .inr (5, [.ref a16, .int 0])), (a12, .inr (5, [.ref a17, .int 0]))] [(k0, .long)]) (va_Qv (fun _ : Unit => True) (fun _ t => ∃ f_2 : Nat → Int64, va_P (dC, dI) CL [(a12, .inr (5, [.ref a17, .int 0])), (a4, .inl (k0, 5, .inr (.inl f_2))), (a0, .inr (2, [.ref a1, .ref a3, .ref a4, .ref a5, .ref a6, .int 0, .int 0, .ref a7, .ref a8, .long 0, .int 0, .int 0, .int 0, .int (-1)])), (a1, .inr (0, [.int 0, .int 0, .int 0, .int 0, .int 0, .int 0, .long 0, .ref a9, .ref a10, .ref a11, .ref a12, .ref a13, .ref a14, .ref a15])), (a11, .inr (5, [.ref a16, .int 0]))] t.heap ∧ va_K (dC, dI) CL [(k0, .long)] t ∧ va_D (va_A [(a0, .inr (2, [.ref a2, .ref a3, .ref a4, .ref a5, .ref a6, .int 0, .int 0, .ref a7, .ref a8, .long 0, .int 0, .int 0, .int 0, .int (-1)])), (a4, .inl (k0, 5, .inr (.inl (fun _ => 0)))), (a1, .inr (0, [.int 0, .int 0, .int 0, .int 0, .int 0, .int 0, .long 0, .ref a9, .ref a10, .ref a11, .ref a12, .ref a13, .ref a14, .ref a15])), (a11, .inr (5, [.ref a16, .int 0])), (a12, .inr (5, [.ref a17, .int 0]))] sz) [(a12, .inr (5, [.ref a17, .int 0])), (a4, .inl (k0, 5, .inr (.inl f_2))), (a0, .inr (2, [.ref a1, .ref a3, .ref a4, .ref a5, .ref a6, .int 0, .int 0, .ref a7, .ref a8, .long 0, .int 0, .int 0, .int 0, .int (-1)])), (a1, .inr (0, [.int 0, .int 0, .int 0, .int 0, .int 0, .int 0, .long 0, .ref a9, .ref a10, .ref a11, .ref a12, .ref a13, .ref a14, .ref a15])), (a11, .inr (5, [.ref a16, .int 0]))]) (va_A [(a0, .inr (2, [.ref a2, .ref a3, .ref a4, .ref a5, .ref a6, .int 0, .int 0, .ref a7, .ref a8, .long 0, .int 0, .int 0, .int 0, .int (-1)])), (a4, .inl (k0, 5, .inr (.inl (fun _ => 0)))), (a1, .inr (0, [.int 0, .int 0, .int 0, .int 0, .int 0, .int 0, .long 0, .ref a9, .ref a10, .ref a11, .ref a12, .ref a13, .ref a14, .ref a15])), (a11, .inr (5, [.ref a16, .int 0])), (a12, .inr (5, [.ref a17, .int 0]))] sz)) 0 0 (va_A [(a0, .inr (2, [.ref a2, .ref a3, .ref a4, .ref a5, .ref a6, .int 0, .int 0, .ref a7, .ref a8, .long 0, .int 0, .int 0, .int 0, .int (-1)])), (a4, .inl (k0, 5, .inr (.inl (fun _ => 0)))), (a1, .inr (0, [.int 0, .int 0, .int 0, .int 0, .int 0, .int 0, .long 0, .ref a9, .ref a10, .ref a11, .ref a12, .ref a13, .ref a14, .ref a15])), (a11, .inr (5, [.ref a16, .int 0])), (a12, .inr (5, [.ref a17, .int 0]))] sz) := by
  refine Met.ofW (cc := cX2_hold) (maxL := 3) (ret := none) (by decide) rfl ?_
  intro p e s m args below meth c s₁ B hml hv
  obtain ⟨rfl, hsz, hP, hK, hD0, hC⟩ := hv
  have hx := B.exec
  have hb := B.bytes
  have hr := B.returns
  have hts0 := atoms_spec (ws := Cond.code yX2_hold cX2_hold 3 none :: TB) B.pre
  have hts : ∀ w ∈ TB, w.before _ s = true := fun w h => hts0 w (List.mem_cons_of_mem _ h)
  have hown : s.vm.findClass RX2 = some m.cls := findClass_of_methodNamed B.named
  have hlocks := B.notSynchronized
  subst hsz
  have hD := hD0.self (sz := s.heap.size)
  generalize hAe : va_A [(a0, .inr (2, [.ref a2, .ref a3, .ref a4, .ref a5, .ref a6, .int 0, .int 0, .ref a7, .ref a8, .long 0, .int 0, .int 0, .int 0, .int (-1)])), (a4, .inl (k0, 5, .inr (.inl (fun _ => 0)))), (a1, .inr (0, [.int 0, .int 0, .int 0, .int 0, .int 0, .int 0, .long 0, .ref a9, .ref a10, .ref a11, .ref a12, .ref a13, .ref a14, .ref a15])), (a11, .inr (5, [.ref a16, .int 0])), (a12, .inr (5, [.ref a17, .int 0]))] s.heap.size = A at hD hC ⊢
  have hA : ∀ q : Nat, s.heap.size ≤ q → A q := fun q h => by rw [← hAe]; exact Or.inr h
  have hl := lv_entry ([.ref a0, .ref a1]) (n := 3) (Nat.le_of_ble_eq_true rfl)
  rw [lg_entry_eq]
  generalize (lg_sl ([.ref a0, .ref a1]) ++ List.replicate (3 - (lg_sl ([.ref a0, .ref a1])).length) Slot.unset).toArray = ls at hl ⊢
  have hl : lv_has ls 3 [(0, .ref a0), (1, .ref a1)] := hl
  have hP : va_P (dC, dI) CL [(a0, .inr (2, [.ref a2, .ref a3, .ref a4, .ref a5, .ref a6, .int 0, .int 0, .ref a7, .ref a8, .long 0, .int 0, .int 0, .int 0, .int (-1)])), (a4, .inl (k0, 5, .inr (.inl (fun _ => 0)))), (a1, .inr (0, [.int 0, .int 0, .int 0, .int 0, .int 0, .int 0, .long 0, .ref a9, .ref a10, .ref a11, .ref a12, .ref a13, .ref a14, .ref a15])), (a11, .inr (5, [.ref a16, .int 0])), (a12, .inr (5, [.ref a17, .int 0]))] s.heap := hP
  obtain ⟨H, hH⟩ : ∃ z, z = s.heap := ⟨_, rfl⟩
  rw [← hH] at hP ⊢
  have hS : va_S A s.heap H [] := by rw [hH]; exact va_S.rf
  refine lv_aload_n hx hb dX2_hold_0 rfl (lv_at hl 0 rfl) ?_
  refine lv_aload_n hx hb dX2_hold_1 rfl (lv_at hl 1 rfl) ?_
  refine va_put (D := (dC, dI)) (ci := 2) (v := .ref a1) (ty := .object "HalfCourt$CaseFile") (C := RX2) (T := TX2) (N := 14) hx hb hts iwX2 tyX2 tyX2_ok nmX2 hown hK hP hD hS 0 rfl rfl 0 (by decide) (hts _ mw_438) (fun _ h9 => h9) rfl (by decide +kernel) rfl rfl (Nat.le_of_ble_eq_true rfl) dX2_hold_2 (fun H locs hP hD hS => ?_)
  have hP : va_P (dC, dI) CL [(a0, .inr (2, [.ref a1, .ref a3, .ref a4, .ref a5, .ref a6, .int 0, .int 0, .ref a7, .ref a8, .long 0, .int 0, .int 0, .int 0, .int (-1)])), (a4, .inl (k0, 5, .inr (.inl (fun _ => 0)))), (a1, .inr (0, [.int 0, .int 0, .int 0, .int 0, .int 0, .int 0, .long 0, .ref a9, .ref a10, .ref a11, .ref a12, .ref a13, .ref a14, .ref a15])), (a11, .inr (5, [.ref a16, .int 0])), (a12, .inr (5, [.ref a17, .int 0]))] H := hP
  have hD : va_D A [(a0, .inr (2, [.ref a1, .ref a3, .ref a4, .ref a5, .ref a6, .int 0, .int 0, .ref a7, .ref a8, .long 0, .int 0, .int 0, .int 0, .int (-1)])), (a4, .inl (k0, 5, .inr (.inl (fun _ => 0)))), (a1, .inr (0, [.int 0, .int 0, .int 0, .int 0, .int 0, .int 0, .long 0, .ref a9, .ref a10, .ref a11, .ref a12, .ref a13, .ref a14, .ref a15])), (a11, .inr (5, [.ref a16, .int 0])), (a12, .inr (5, [.ref a17, .int 0]))] := hD
  refine lv_aload_n hx hb dX2_hold_5 rfl (lv_at hl 0 rfl) ?_
  refine lv_iconst (v := 0) hx hb dX2_hold_6 (by decide) ?_
  refine va_put (D := (dC, dI)) (ci := 2) (v := .int 0) (ty := .int) (C := RX2) (T := TX2) (N := 14) hx hb hts iwX2 tyX2 tyX2_ok nmX2 hown hK hP hD hS 0 rfl rfl 5 (by decide) (hts _ mw_444) (fun _ h9 => h9) rfl (by decide +kernel) rfl rfl (Nat.le_of_ble_eq_true rfl) dX2_hold_7 (fun H locs hP hD hS => ?_)
  have hP : va_P (dC, dI) CL [(a0, .inr (2, [.ref a1, .ref a3, .ref a4, .ref a5, .ref a6, .int 0, .int 0, .ref a7, .ref a8, .long 0, .int 0, .int 0, .int 0, .int (-1)])), (a4, .inl (k0, 5, .inr (.inl (fun _ => 0)))), (a1, .inr (0, [.int 0, .int 0, .int 0, .int 0, .int 0, .int 0, .long 0, .ref a9, .ref a10, .ref a11, .ref a12, .ref a13, .ref a14, .ref a15])), (a11, .inr (5, [.ref a16, .int 0])), (a12, .inr (5, [.ref a17, .int 0]))] H := hP
  have hD : va_D A [(a0, .inr (2, [.ref a1, .ref a3, .ref a4, .ref a5, .ref a6, .int 0, .int 0, .ref a7, .ref a8, .long 0, .int 0, .int 0, .int 0, .int (-1)])), (a4, .inl (k0, 5, .inr (.inl (fun _ => 0)))), (a1, .inr (0, [.int 0, .int 0, .int 0, .int 0, .int 0, .int 0, .long 0, .ref a9, .ref a10, .ref a11, .ref a12, .ref a13, .ref a14, .ref a15])), (a11, .inr (5, [.ref a16, .int 0])), (a12, .inr (5, [.ref a17, .int 0]))] := hD
  refine lv_aload_n hx hb dX2_hold_10 rfl (lv_at hl 0 rfl) ?_
  refine lv_lconst (v := 0) hx hb dX2_hold_11 (by decide) ?_
  refine va_put (D := (dC, dI)) (ci := 2) (v := .long 0) (ty := .long) (C := RX2) (T := TX2) (N := 14) hx hb hts iwX2 tyX2 tyX2_ok nmX2 hown hK hP hD hS 0 rfl rfl 9 (by decide) (hts _ mw_451) (fun _ h9 => h9) rfl (by decide +kernel) rfl rfl (Nat.le_of_ble_eq_true rfl) dX2_hold_12 (fun H locs hP hD hS => ?_)
  have hP : va_P (dC, dI) CL [(a0, .inr (2, [.ref a1, .ref a3, .ref a4, .ref a5, .ref a6, .int 0, .int 0, .ref a7, .ref a8, .long 0, .int 0, .int 0, .int 0, .int (-1)])), (a4, .inl (k0, 5, .inr (.inl (fun _ => 0)))), (a1, .inr (0, [.int 0, .int 0, .int 0, .int 0, .int 0, .int 0, .long 0, .ref a9, .ref a10, .ref a11, .ref a12, .ref a13, .ref a14, .ref a15])), (a11, .inr (5, [.ref a16, .int 0])), (a12, .inr (5, [.ref a17, .int 0]))] H := hP
  have hD : va_D A [(a0, .inr (2, [.ref a1, .ref a3, .ref a4, .ref a5, .ref a6, .int 0, .int 0, .ref a7, .ref a8, .long 0, .int 0, .int 0, .int 0, .int (-1)])), (a4, .inl (k0, 5, .inr (.inl (fun _ => 0)))), (a1, .inr (0, [.int 0, .int 0, .int 0, .int 0, .int 0, .int 0, .long 0, .ref a9, .ref a10, .ref a11, .ref a12, .ref a13, .ref a14, .ref a15])), (a11, .inr (5, [.ref a16, .int 0])), (a12, .inr (5, [.ref a17, .int 0]))] := hD
  refine lv_aload_n hx hb dX2_hold_15 rfl (lv_at hl 0 rfl) ?_
  refine lv_iconst (v := 0) hx hb dX2_hold_16 (by decide) ?_
  refine va_put (D := (dC, dI)) (ci := 2) (v := .int 0) (ty := .boolean) (C := RX2) (T := TX2) (N := 14) hx hb hts iwX2 tyX2 tyX2_ok nmX2 hown hK hP hD hS 0 rfl rfl 6 (by decide) (hts _ mw_445) (fun _ h9 => h9) rfl (by decide +kernel) rfl rfl (Nat.le_of_ble_eq_true rfl) dX2_hold_17 (fun H locs hP hD hS => ?_)
  have hP : va_P (dC, dI) CL [(a0, .inr (2, [.ref a1, .ref a3, .ref a4, .ref a5, .ref a6, .int 0, .int 0, .ref a7, .ref a8, .long 0, .int 0, .int 0, .int 0, .int (-1)])), (a4, .inl (k0, 5, .inr (.inl (fun _ => 0)))), (a1, .inr (0, [.int 0, .int 0, .int 0, .int 0, .int 0, .int 0, .long 0, .ref a9, .ref a10, .ref a11, .ref a12, .ref a13, .ref a14, .ref a15])), (a11, .inr (5, [.ref a16, .int 0])), (a12, .inr (5, [.ref a17, .int 0]))] H := hP
  have hD : va_D A [(a0, .inr (2, [.ref a1, .ref a3, .ref a4, .ref a5, .ref a6, .int 0, .int 0, .ref a7, .ref a8, .long 0, .int 0, .int 0, .int 0, .int (-1)])), (a4, .inl (k0, 5, .inr (.inl (fun _ => 0)))), (a1, .inr (0, [.int 0, .int 0, .int 0, .int 0, .int 0, .int 0, .long 0, .ref a9, .ref a10, .ref a11, .ref a12, .ref a13, .ref a14, .ref a15])), (a11, .inr (5, [.ref a16, .int 0])), (a12, .inr (5, [.ref a17, .int 0]))] := hD
  refine lv_aload_n hx hb dX2_hold_20 rfl (lv_at hl 0 rfl) ?_
  refine va_get (D := (dC, dI)) (ci := 2) (v := .ref a4) (C := RX2) (T := TX2) (N := 14) hx hb hts iwX2 hown hK hP 0 rfl rfl 2 (by decide) (hts _ mw_441) (fun _ h9 => h9) rfl dX2_hold_21 ?_
  refine lv_lconst (v := 0) hx hb dX2_hold_24 (by decide) ?_
  have hPc := hP.sub (ws' := [(a4, .inl (k0, 5, .inr (.inl (fun _ => 0))))]) [1] rfl
  have hDc := hD.sub (ws' := [(a4, .inl (k0, 5, .inr (.inl (fun _ => 0))))]) [1] (by decide) rfl
  have hKc := hK.sub (tys' := [(k0, .long)]) [0] rfl
  have hFc := va_free (wc := [(a4, .inl (k0, 5, .inr (.inl (fun _ => 0))))]) hD hS hA [1] rfl
  refine va_callv (va_runS (As := [.ref a4, .long 0]) (rest := []) ⟨hx, hb, hml, hown, hts⟩ (zJ7_fill_d0a16 l dC dI adK adV H.size a4 k0) (va_cwS 2 hts (tb_S mw_761 mw_762 mw_105 mw_763) rfl rfl rfl (by decide +kernel) ⟨Nat.le_of_ble_eq_true rfl, Nat.le_of_ble_eq_true rfl⟩) ⟨XB, XQ (av := [.ref a4, .long 0]) hPc hKc hDc hC hS hFc⟩ rfl rfl hl.1 rfl (lv_room (Nat.le_of_ble_eq_true rfl)) dX2_hold_25 ⟨Nat.le_of_ble_eq_true rfl, Nat.le_of_ble_eq_true rfl⟩) hS (fun q _ h => hFc q h) hFc (fun u_9 t H1 locs ht hvm hw hB hz1 hk1 hS => ?_)
  try dsimp only at hw
  obtain ⟨f_2, hP1, hK1, hD1⟩ := hB
  rw [ht] at hP1
  have hK1 := va_K.moved hvm.symm hK1
  obtain ⟨hP, hD⟩ := va_join (wr := [(a0, .inr (2, [.ref a1, .ref a3, .ref a4, .ref a5, .ref a6, .int 0, .int 0, .ref a7, .ref a8, .long 0, .int 0, .int 0, .int 0, .int (-1)])), (a1, .inr (0, [.int 0, .int 0, .int 0, .int 0, .int 0, .int 0, .long 0, .ref a9, .ref a10, .ref a11, .ref a12, .ref a13, .ref a14, .ref a15])), (a11, .inr (5, [.ref a16, .int 0])), (a12, .inr (5, [.ref a17, .int 0]))]) (w1 := [(a4, .inl (k0, 5, .inr (.inl f_2)))]) hP hD [1] [0, 2, 3, 4] rfl rfl (by decide) (by decide) hk1 hFc hP1 hD1
  have hK := (hK.sub (tys' := []) [] rfl).app hK1
  generalize H1 = H at hP hS ⊢
  have hP : va_P (dC, dI) CL [(a0, .inr (2, [.ref a1, .ref a3, .ref a4, .ref a5, .ref a6, .int 0, .int 0, .ref a7, .ref a8, .long 0, .int 0, .int 0, .int 0, .int (-1)])), (a1, .inr (0, [.int 0, .int 0, .int 0, .int 0, .int 0, .int 0, .long 0, .ref a9, .ref a10, .ref a11, .ref a12, .ref a13, .ref a14, .ref a15])), (a11, .inr (5, [.ref a16, .int 0])), (a12, .inr (5, [.ref a17, .int 0])), (a4, .inl (k0, 5, .inr (.inl f_2)))] H := hP
  have hD : va_D A [(a0, .inr (2, [.ref a1, .ref a3, .ref a4, .ref a5, .ref a6, .int 0, .int 0, .ref a7, .ref a8, .long 0, .int 0, .int 0, .int 0, .int (-1)])), (a1, .inr (0, [.int 0, .int 0, .int 0, .int 0, .int 0, .int 0, .long 0, .ref a9, .ref a10, .ref a11, .ref a12, .ref a13, .ref a14, .ref a15])), (a11, .inr (5, [.ref a16, .int 0])), (a12, .inr (5, [.ref a17, .int 0])), (a4, .inl (k0, 5, .inr (.inl f_2)))] := hD
  have hK : va_K (dC, dI) CL [(k0, .long)] s := hK
  refine lv_aload_n hx hb dX2_hold_28 rfl (lv_at hl 0 rfl) ?_
  have hPc := hP.sub (ws' := [(a0, .inr (2, [.ref a1, .ref a3, .ref a4, .ref a5, .ref a6, .int 0, .int 0, .ref a7, .ref a8, .long 0, .int 0, .int 0, .int 0, .int (-1)])), (a1, .inr (0, [.int 0, .int 0, .int 0, .int 0, .int 0, .int 0, .long 0, .ref a9, .ref a10, .ref a11, .ref a12, .ref a13, .ref a14, .ref a15])), (a11, .inr (5, [.ref a16, .int 0]))]) [0, 1, 2] rfl
  have hDc := hD.sub (ws' := [(a0, .inr (2, [.ref a1, .ref a3, .ref a4, .ref a5, .ref a6, .int 0, .int 0, .ref a7, .ref a8, .long 0, .int 0, .int 0, .int 0, .int (-1)])), (a1, .inr (0, [.int 0, .int 0, .int 0, .int 0, .int 0, .int 0, .long 0, .ref a9, .ref a10, .ref a11, .ref a12, .ref a13, .ref a14, .ref a15])), (a11, .inr (5, [.ref a16, .int 0]))]) [0, 1, 2] (by decide) rfl
  have hKc := hK.sub (tys' := []) [] rfl
  have hFc := va_free (wc := [(a0, .inr (2, [.ref a1, .ref a3, .ref a4, .ref a5, .ref a6, .int 0, .int 0, .ref a7, .ref a8, .long 0, .int 0, .int 0, .int 0, .int (-1)])), (a1, .inr (0, [.int 0, .int 0, .int 0, .int 0, .int 0, .int 0, .long 0, .ref a9, .ref a10, .ref a11, .ref a12, .ref a13, .ref a14, .ref a15])), (a11, .inr (5, [.ref a16, .int 0]))]) hD hS hA [0, 1, 2] rfl
  refine va_callv (va_runV (As := []) (rest := []) ⟨hx, hb, hml, hown, hts⟩ (zX2_compareDeeds l dC dI adK adV H.size a0 a1 a3 a4 a5 a6 a7 a8 a9 a10 a11 a12 a13 a14 a15 a16) (cwV 0 hts (tb_V mw_764 mw_766 mw_27 mw_112 mw_767) rfl rfl rfl (by decide +kernel) ⟨Nat.le_of_ble_eq_true rfl, Nat.le_of_ble_eq_true rfl⟩) ⟨XB, va_recv hKc hPc (ci := 2) (q0 := 0) rfl rfl, XQ (av := [.ref a0]) hPc hKc hDc hC hS hFc⟩ rfl rfl hl.1 rfl (lv_room (Nat.le_of_ble_eq_true rfl)) dX2_hold_29 ⟨Nat.le_of_ble_eq_true rfl, Nat.le_of_ble_eq_true rfl⟩) hS (fun q _ h => hFc q h) hFc (fun u_9 t H1 locs ht hvm hw hB hz1 hk1 hS => ?_)
  try dsimp only at hw
  obtain ⟨hP1, hK1, hD1⟩ := hB
  rw [ht] at hP1
  have hK1 := va_K.moved hvm.symm hK1
  obtain ⟨hP, hD⟩ := va_join (wr := [(a12, .inr (5, [.ref a17, .int 0])), (a4, .inl (k0, 5, .inr (.inl f_2)))]) (w1 := [(a0, .inr (2, [.ref a1, .ref a3, .ref a4, .ref a5, .ref a6, .int 0, .int 0, .ref a7, .ref a8, .long 0, .int 0, .int 0, .int 0, .int (-1)])), (a1, .inr (0, [.int 0, .int 0, .int 0, .int 0, .int 0, .int 0, .long 0, .ref a9, .ref a10, .ref a11, .ref a12, .ref a13, .ref a14, .ref a15])), (a11, .inr (5, [.ref a16, .int 0]))]) hP hD [0, 1, 2] [3, 4] rfl rfl (by decide) (by decide) hk1 hFc hP1 hD1
  have hK := (hK.sub (tys' := [(k0, .long)]) [0] rfl).app hK1
  generalize H1 = H at hP hS ⊢
  have hP : va_P (dC, dI) CL [(a12, .inr (5, [.ref a17, .int 0])), (a4, .inl (k0, 5, .inr (.inl f_2))), (a0, .inr (2, [.ref a1, .ref a3, .ref a4, .ref a5, .ref a6, .int 0, .int 0, .ref a7, .ref a8, .long 0, .int 0, .int 0, .int 0, .int (-1)])), (a1, .inr (0, [.int 0, .int 0, .int 0, .int 0, .int 0, .int 0, .long 0, .ref a9, .ref a10, .ref a11, .ref a12, .ref a13, .ref a14, .ref a15])), (a11, .inr (5, [.ref a16, .int 0]))] H := hP
  have hD : va_D A [(a12, .inr (5, [.ref a17, .int 0])), (a4, .inl (k0, 5, .inr (.inl f_2))), (a0, .inr (2, [.ref a1, .ref a3, .ref a4, .ref a5, .ref a6, .int 0, .int 0, .ref a7, .ref a8, .long 0, .int 0, .int 0, .int 0, .int (-1)])), (a1, .inr (0, [.int 0, .int 0, .int 0, .int 0, .int 0, .int 0, .long 0, .ref a9, .ref a10, .ref a11, .ref a12, .ref a13, .ref a14, .ref a15])), (a11, .inr (5, [.ref a16, .int 0]))] := hD
  have hK : va_K (dC, dI) CL [(k0, .long)] s := hK
  refine lv_iconst (v := 0) hx hb dX2_hold_32 (by decide) ?_
  refine lv_istore_n (lv' := [(2, .int 0), (0, .ref a0), (1, .ref a1)]) hx hb dX2_hold_33 rfl hl (by decide) rfl (fun ls hl => ?_)
  refine lv_iload_n hx hb dX2_hold_34 rfl (lv_at hl 0 rfl) ?_
  refine lv_aload_n hx hb dX2_hold_35 rfl (lv_at hl 1 rfl) ?_
  refine va_get (D := (dC, dI)) (ci := 2) (v := .ref a1) (C := RX2) (T := TX2) (N := 14) hx hb hts iwX2 hown hK hP 2 rfl rfl 0 (by decide) (hts _ mw_438) (fun _ h9 => h9) rfl dX2_hold_36 ?_
  refine va_get (D := (dC, dI)) (ci := 0) (v := .ref a12) (C := RX0) (T := TX0) (N := 14) hx hb hts iwX0 hown hK hP 3 rfl rfl 10 (by decide) (hts _ mw_266) (fun _ h9 => h9) rfl dX2_hold_39 ?_
  refine va_get (D := (dC, dI)) (ci := 5) (v := .int 0) (C := RX5) (T := TX5) (N := 2) hx hb hts iwX5 hown hK hP 0 rfl rfl 1 (by decide) (hts _ mw_145) (fun _ h9 => h9) rfl dX2_hold_42 ?_
  refine lv_icmp_ge (tgt := 118) hx hb dX2_hold_45 (by decide) (fun _ => ?_) (fun h => (h (by decide)).elim)
  refine W.widen (k := 0) (n := 0) (Nat.le_of_ble_eq_true rfl) (Nat.le_of_ble_eq_true rfl) ?_
  have hP9 := hP.sub (ws' := [(a12, .inr (5, [.ref a17, .int 0])), (a4, .inl (k0, 5, .inr (.inl f_2))), (a0, .inr (2, [.ref a1, .ref a3, .ref a4, .ref a5, .ref a6, .int 0, .int 0, .ref a7, .ref a8, .long 0, .int 0, .int 0, .int 0, .int (-1)])), (a1, .inr (0, [.int 0, .int 0, .int 0, .int 0, .int 0, .int 0, .long 0, .ref a9, .ref a10, .ref a11, .ref a12, .ref a13, .ref a14, .ref a15])), (a11, .inr (5, [.ref a16, .int 0]))]) [0, 1, 2, 3, 4] rfl
  have hD9 := hD.sub (ws' := [(a12, .inr (5, [.ref a17, .int 0])), (a4, .inl (k0, 5, .inr (.inl f_2))), (a0, .inr (2, [.ref a1, .ref a3, .ref a4, .ref a5, .ref a6, .int 0, .int 0, .ref a7, .ref a8, .long 0, .int 0, .int 0, .int 0, .int (-1)])), (a1, .inr (0, [.int 0, .int 0, .int 0, .int 0, .int 0, .int 0, .long 0, .ref a9, .ref a10, .ref a11, .ref a12, .ref a13, .ref a14, .ref a15])), (a11, .inr (5, [.ref a16, .int 0]))]) [0, 1, 2, 3, 4] (by decide) rfl
  have hK9 := hK.sub (tys' := [(k0, .long)]) [0] rfl
  exact W.vret hx hb hr (fun t ht hW => ⟨⟨(), rfl, trivial, f_2, by rw [ht]; exact hP9, va_K.moved hW.alike hK9, hD9⟩, hS.F ht⟩) hS.2.2 dX2_hold_118
set_option maxHeartbeats 4000000 in
set_option maxRecDepth 100000 in
theorem zX6_forget (l : Launch) (dC : Nat → ClassId) (dI : Nat → Nat → Nat) (adK adV : Nat → Nat) (sz : Nat) (a0 : Nat) (a1 : Nat) (a2 : Nat) (a3 : Nat) (a4 : Nat) : Met l yX6_forget (Cond.code yX6_forget cX6_forget 1 none :: TB) ({ frames := 1, cells := 0, slots := 0, locals := 100 }) (XP (dC, dI) adK adV [.ref a0] sz [(a0, .inr (6, [.ref a1, .int 0, .ref a2, .ref a3, .ref a4]))] []) (va_Qv (fun _ : Unit => True) (fun _ t => va_P (dC, dI) CL [(a0, .inr (6, [.ref a1, .int 0, .ref a2, .ref a3, .ref a4]))] t.heap ∧ va_K (dC, dI) CL [] t ∧ va_D (va_A [(a0, .inr (6, [.ref a1, .int 0, .ref a2, .ref a3, .ref a4]))] sz) [(a0, .inr (6, [.ref a1, .int 0, .ref a2, .ref a3, .ref a4]))]) (va_A [(a0, .inr (6, [.ref a1, .int 0, .ref a2, .ref a3, .ref a4]))] sz)) 0 0 (va_A [(a0, .inr (6, [.ref a1, .int 0, .ref a2, .ref a3, .ref a4]))] sz) := by
  refine Met.ofW (cc := cX6_forget) (maxL := 1) (ret := none) (by decide) rfl ?_
  intro p e s m args below meth c s₁ B hml hv
  obtain ⟨rfl, hsz, hP, hK, hD0, hC⟩ := hv
  have hx := B.exec
  have hb := B.bytes
  have hr := B.returns
  have hts0 := atoms_spec (ws := Cond.code yX6_forget cX6_forget 1 none :: TB) B.pre
  have hts : ∀ w ∈ TB, w.before _ s = true := fun w h => hts0 w (List.mem_cons_of_mem _ h)
  have hown : s.vm.findClass RX6 = some m.cls := findClass_of_methodNamed B.named
  have hlocks := B.notSynchronized
  subst hsz
  have hD := hD0.self (sz := s.heap.size)
  generalize hAe : va_A [(a0, .inr (6, [.ref a1, .int 0, .ref a2, .ref a3, .ref a4]))] s.heap.size = A at hD hC ⊢
  have hA : ∀ q : Nat, s.heap.size ≤ q → A q := fun q h => by rw [← hAe]; exact Or.inr h
  have hl := lv_entry ([.ref a0]) (n := 1) (Nat.le_of_ble_eq_true rfl)
  rw [lg_entry_eq]
  generalize (lg_sl ([.ref a0]) ++ List.replicate (1 - (lg_sl ([.ref a0])).length) Slot.unset).toArray = ls at hl ⊢
  have hl : lv_has ls 1 [(0, .ref a0)] := hl
  have hP : va_P (dC, dI) CL [(a0, .inr (6, [.ref a1, .int 0, .ref a2, .ref a3, .ref a4]))] s.heap := hP
  obtain ⟨H, hH⟩ : ∃ z, z = s.heap := ⟨_, rfl⟩
  rw [← hH] at hP ⊢
  have hS : va_S A s.heap H [] := by rw [hH]; exact va_S.rf
  refine lv_aload_n hx hb dX6_forget_0 rfl (lv_at hl 0 rfl) ?_
  refine lv_iconst (v := 0) hx hb dX6_forget_1 (by decide) ?_
  refine va_put (D := (dC, dI)) (ci := 6) (v := .int 0) (ty := .boolean) (C := RX6) (T := TX6) (N := 5) hx hb hts iwX6 tyX6 tyX6_ok nmX6 hown hK hP hD hS 0 rfl rfl 1 (by decide) (hts _ mw_498) (fun _ h9 => h9) rfl (by decide +kernel) rfl rfl (Nat.le_of_ble_eq_true rfl) dX6_forget_2 (fun H locs hP hD hS => ?_)
  have hP : va_P (dC, dI) CL [(a0, .inr (6, [.ref a1, .int 0, .ref a2, .ref a3, .ref a4]))] H := hP
  have hD : va_D A [(a0, .inr (6, [.ref a1, .int 0, .ref a2, .ref a3, .ref a4]))] := hD
  refine W.widen (k := 0) (n := 0) (Nat.le_of_ble_eq_true rfl) (Nat.le_of_ble_eq_true rfl) ?_
  have hP9 := hP.sub (ws' := [(a0, .inr (6, [.ref a1, .int 0, .ref a2, .ref a3, .ref a4]))]) [0] rfl
  have hD9 := hD.sub (ws' := [(a0, .inr (6, [.ref a1, .int 0, .ref a2, .ref a3, .ref a4]))]) [0] (by decide) rfl
  have hK9 := hK.sub (tys' := []) [] rfl
  exact W.vret hx hb hr (fun t ht hW => ⟨⟨(), rfl, trivial, by rw [ht]; exact hP9, va_K.moved hW.alike hK9, hD9⟩, hS.F ht⟩) hS.2.2 dX6_forget_5
