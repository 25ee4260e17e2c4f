set_option maxHeartbeats 4000000 in
set_option maxRecDepth 100000 in
theorem zX2_init (l : Launch) (dC : Nat → ClassId) (dI : Nat → Nat → Nat) (adK adV : Nat → Nat) (sz : Nat) (a0 : Nat) (a1 : Nat) : Met l yX2_init (Cond.code yX2_init cX2_init 2 none :: TB) ({ frames := 2, cells := 6, slots := 406, locals := 120 }) (XP (dC, dI) adK adV [.ref a0, .ref a1] sz [(a0, .inr (2, [.null, .null, .null, .null, .null, .int 0, .int 0, .null, .null, .long 0, .int 0, .int 0, .int 0, .int 0]))] []) (va_Qv (fun _ : Unit => True) (fun _ t => ∃ q_1 : Nat, ∃ q_3 : Nat, ∃ q_5 : Nat, ∃ q_7 : Nat, ∃ q_9 : Nat, ∃ q_11 : Nat, ∃ k_4 : ClassId, va_P (dC, dI) CL [(a0, .inr (2, [.ref a1, .ref q_1, .ref q_3, .ref q_5, .ref q_7, .int 0, .int 0, .ref q_9, .ref q_11, .long 0, .int 0, .int 0, .int 0, .int (-1)])), (q_3, .inl (k_4, 5, .inr (.inl (fun _ => 0)))), (q_7, .inr (4, [.int 0, .int 0, .int 0, .int 0, .int 0, .int 0]))] t.heap ∧ va_K (dC, dI) CL [(k_4, .long)] t ∧ va_D (va_A [(a0, .inr (2, [.null, .null, .null, .null, .null, .int 0, .int 0, .null, .null, .long 0, .int 0, .int 0, .int 0, .int 0]))] sz) [(a0, .inr (2, [.ref a1, .ref q_1, .ref q_3, .ref q_5, .ref q_7, .int 0, .int 0, .ref q_9, .ref q_11, .long 0, .int 0, .int 0, .int 0, .int (-1)])), (q_3, .inl (k_4, 5, .inr (.inl (fun _ => 0)))), (q_7, .inr (4, [.int 0, .int 0, .int 0, .int 0, .int 0, .int 0]))]) (va_A [(a0, .inr (2, [.null, .null, .null, .null, .null, .int 0, .int 0, .null, .null, .long 0, .int 0, .int 0, .int 0, .int 0]))] sz)) 6 406 (va_A [(a0, .inr (2, [.null, .null, .null, .null, .null, .int 0, .int 0, .null, .null, .long 0, .int 0, .int 0, .int 0, .int 0]))] sz) := by
  refine Met.ofW (cc := cX2_init) (maxL := 2) (ret := none) (by decide) rfl ?_
  intro p e s m args below meth c s₁ B hml hv
  obtain ⟨rfl, hsz, hP, hK, hD0, hC⟩ := hv
  have hx := B.exec
  have hb := B.bytes
  have hr := B.returns
  have hts0 := atoms_spec (ws := Cond.code yX2_init cX2_init 2 none :: TB) B.pre
  have hts : ∀ w ∈ TB, w.before _ s = true := fun w h => hts0 w (List.mem_cons_of_mem _ h)
  have hown : s.vm.findClass RX2 = some m.cls := findClass_of_methodNamed B.named
  have hlocks := B.notSynchronized
  have hin : meth.name = "<init>" := (name_of_methodNamed B.named B.method).1
  subst hsz
  have hD := hD0.self (sz := s.heap.size)
  generalize hAe : va_A [(a0, .inr (2, [.null, .null, .null, .null, .null, .int 0, .int 0, .null, .null, .long 0, .int 0, .int 0, .int 0, .int 0]))] s.heap.size = A at hD hC ⊢
  have hA : ∀ q : Nat, s.heap.size ≤ q → A q := fun q h => by rw [← hAe]; exact Or.inr h
  have hl := lv_entry ([.ref a0, .ref a1]) (n := 2) (Nat.le_of_ble_eq_true rfl)
  rw [lg_entry_eq]
  generalize (lg_sl ([.ref a0, .ref a1]) ++ List.replicate (2 - (lg_sl ([.ref a0, .ref a1])).length) Slot.unset).toArray = ls at hl ⊢
  have hl : lv_has ls 2 [(0, .ref a0), (1, .ref a1)] := hl
  have hP : va_P (dC, dI) CL [(a0, .inr (2, [.null, .null, .null, .null, .null, .int 0, .int 0, .null, .null, .long 0, .int 0, .int 0, .int 0, .int 0]))] s.heap := hP
  obtain ⟨H, hH⟩ : ∃ z, z = s.heap := ⟨_, rfl⟩
  rw [← hH] at hP ⊢
  have hS : va_S A s.heap H [] := by rw [hH]; exact va_S.rf
  refine lv_aload_n hx hb dX2_init_0 rfl (lv_at hl 0 rfl) ?_
  refine W.objInit hx hb hown (hts _ mw_435) (hts _ mw_125) (hts _ mw_126) rfl (by rw [hml]; exact hl.1) rfl dX2_init_1 (Nat.le_of_ble_eq_true rfl) (Nat.le_of_ble_eq_true rfl) ?_
  refine W.eq (g2 := F0 m 4 ls []) rfl ?_
  refine lv_aload_n hx hb dX2_init_4 rfl (lv_at hl 0 rfl) ?_
  refine lv_bipush (v := 55) hx hb dX2_init_5 (by decide) ?_
  refine va_newa (atype := .long) (n := 55) (N' := 55) (ty := .long) (a0 := (55, .inr (.inl (fun _ => 0)))) hx hb (hts _ mw_156) rfl hK hP hD hS hA (fun _ => rfl) (by decide) (by decide) (by decide) (Nat.le_of_ble_eq_true rfl) (Nat.le_of_ble_eq_true rfl) dX2_init_7 (fun q_1 k_2 H hK hP hD hS => ?_)
  have hK : va_K (dC, dI) CL [(k_2, .long)] s := hK
  have hP : va_P (dC, dI) CL [(a0, .inr (2, [.null, .null, .null, .null, .null, .int 0, .int 0, .null, .null, .long 0, .int 0, .int 0, .int 0, .int 0])), (q_1, .inl (k_2, 55, .inr (.inl (fun _ => 0))))] H := hP
  have hD : va_D A [(a0, .inr (2, [.null, .null, .null, .null, .null, .int 0, .int 0, .null, .null, .long 0, .int 0, .int 0, .int 0, .int 0])), (q_1, .inl (k_2, 55, .inr (.inl (fun _ => 0))))] := hD
  refine W.widen (k := 1) (n := 55) (Nat.le_of_ble_eq_true rfl) (Nat.le_of_ble_eq_true rfl) ?_
  refine va_putF (D := (dC, dI)) (ci := 2) (v := .ref q_1) (ty := .array .long) (C := RX2) (T := TX2) (N := 14) hx hb hts iwX2 tyX2 tyX2_ok nmX2 hown hK hP hD hS 0 rfl rfl 1 (by decide) (hts _ mw_440) (fun _ h9 => h9) rfl hin rfl (by decide +kernel) rfl rfl (Nat.le_of_ble_eq_true rfl) dX2_init_9 (fun H locs hP hD hS => ?_)
  have hP : va_P (dC, dI) CL [(a0, .inr (2, [.null, .ref q_1, .null, .null, .null, .int 0, .int 0, .null, .null, .long 0, .int 0, .int 0, .int 0, .int 0])), (q_1, .inl (k_2, 55, .inr (.inl (fun _ => 0))))] H := hP
  have hD : va_D A [(a0, .inr (2, [.null, .ref q_1, .null, .null, .null, .int 0, .int 0, .null, .null, .long 0, .int 0, .int 0, .int 0, .int 0])), (q_1, .inl (k_2, 55, .inr (.inl (fun _ => 0))))] := hD
  refine lv_aload_n hx hb dX2_init_12 rfl (lv_at hl 0 rfl) ?_
  refine lv_iconst (v := 5) hx hb dX2_init_13 (by decide) ?_
  refine va_newa (atype := .long) (n := 5) (N' := 5) (ty := .long) (a0 := (5, .inr (.inl (fun _ => 0)))) hx hb (hts _ mw_156) rfl hK hP hD hS hA (fun _ => rfl) (by decide) (by decide) (by decide) (Nat.le_of_ble_eq_true rfl) (Nat.le_of_ble_eq_true rfl) dX2_init_14 (fun q_3 k_4 H hK hP hD hS => ?_)
  have hK : va_K (dC, dI) CL [(k_2, .long), (k_4, .long)] s := hK
  have hP : va_P (dC, dI) CL [(a0, .inr (2, [.null, .ref q_1, .null, .null, .null, .int 0, .int 0, .null, .null, .long 0, .int 0, .int 0, .int 0, .int 0])), (q_1, .inl (k_2, 55, .inr (.inl (fun _ => 0)))), (q_3, .inl (k_4, 5, .inr (.inl (fun _ => 0))))] H := hP
  have hD : va_D A [(a0, .inr (2, [.null, .ref q_1, .null, .null, .null, .int 0, .int 0, .null, .null, .long 0, .int 0, .int 0, .int 0, .int 0])), (q_1, .inl (k_2, 55, .inr (.inl (fun _ => 0)))), (q_3, .inl (k_4, 5, .inr (.inl (fun _ => 0))))] := hD
  refine W.widen (k := 2) (n := 60) (Nat.le_of_ble_eq_true rfl) (Nat.le_of_ble_eq_true rfl) ?_
  refine va_putF (D := (dC, dI)) (ci := 2) (v := .ref q_3) (ty := .array .long) (C := RX2) (T := TX2) (N := 14) hx hb hts iwX2 tyX2 tyX2_ok nmX2 hown hK hP hD hS 0 rfl rfl 2 (by decide) (hts _ mw_441) (fun _ h9 => h9) rfl hin rfl (by decide +kernel) rfl rfl (Nat.le_of_ble_eq_true rfl) dX2_init_16 (fun H locs hP hD hS => ?_)
  have hP : va_P (dC, dI) CL [(a0, .inr (2, [.null, .ref q_1, .ref q_3, .null, .null, .int 0, .int 0, .null, .null, .long 0, .int 0, .int 0, .int 0, .int 0])), (q_1, .inl (k_2, 55, .inr (.inl (fun _ => 0)))), (q_3, .inl (k_4, 5, .inr (.inl (fun _ => 0))))] H := hP
  have hD : va_D A [(a0, .inr (2, [.null, .ref q_1, .ref q_3, .null, .null, .int 0, .int 0, .null, .null, .long 0, .int 0, .int 0, .int 0, .int 0])), (q_1, .inl (k_2, 55, .inr (.inl (fun _ => 0)))), (q_3, .inl (k_4, 5, .inr (.inl (fun _ => 0))))] := hD
  refine lv_aload_n hx hb dX2_init_19 rfl (lv_at hl 0 rfl) ?_
  refine lv_sipush (v := 320) hx hb dX2_init_20 (by decide) ?_
  refine va_newa (atype := .long) (n := 320) (N' := 320) (ty := .long) (a0 := (320, .inr (.inl (fun _ => 0)))) hx hb (hts _ mw_156) rfl hK hP hD hS hA (fun _ => rfl) (by decide) (by decide) (by decide) (Nat.le_of_ble_eq_true rfl) (Nat.le_of_ble_eq_true rfl) dX2_init_23 (fun q_5 k_6 H hK hP hD hS => ?_)
  have hK : va_K (dC, dI) CL [(k_2, .long), (k_4, .long), (k_6, .long)] s := hK
  have hP : va_P (dC, dI) CL [(a0, .inr (2, [.null, .ref q_1, .ref q_3, .null, .null, .int 0, .int 0, .null, .null, .long 0, .int 0, .int 0, .int 0, .int 0])), (q_1, .inl (k_2, 55, .inr (.inl (fun _ => 0)))), (q_3, .inl (k_4, 5, .inr (.inl (fun _ => 0)))), (q_5, .inl (k_6, 320, .inr (.inl (fun _ => 0))))] H := hP
  have hD : va_D A [(a0, .inr (2, [.null, .ref q_1, .ref q_3, .null, .null, .int 0, .int 0, .null, .null, .long 0, .int 0, .int 0, .int 0, .int 0])), (q_1, .inl (k_2, 55, .inr (.inl (fun _ => 0)))), (q_3, .inl (k_4, 5, .inr (.inl (fun _ => 0)))), (q_5, .inl (k_6, 320, .inr (.inl (fun _ => 0))))] := hD
  refine W.widen (k := 3) (n := 380) (Nat.le_of_ble_eq_true rfl) (Nat.le_of_ble_eq_true rfl) ?_
  refine va_putF (D := (dC, dI)) (ci := 2) (v := .ref q_5) (ty := .array .long) (C := RX2) (T := TX2) (N := 14) hx hb hts iwX2 tyX2 tyX2_ok nmX2 hown hK hP hD hS 0 rfl rfl 3 (by decide) (hts _ mw_442) (fun _ h9 => h9) rfl hin rfl (by decide +kernel) rfl rfl (Nat.le_of_ble_eq_true rfl) dX2_init_25 (fun H locs hP hD hS => ?_)
  have hP : va_P (dC, dI) CL [(a0, .inr (2, [.null, .ref q_1, .ref q_3, .ref q_5, .null, .int 0, .int 0, .null, .null, .long 0, .int 0, .int 0, .int 0, .int 0])), (q_1, .inl (k_2, 55, .inr (.inl (fun _ => 0)))), (q_3, .inl (k_4, 5, .inr (.inl (fun _ => 0)))), (q_5, .inl (k_6, 320, .inr (.inl (fun _ => 0))))] H := hP
  have hD : va_D A [(a0, .inr (2, [.null, .ref q_1, .ref q_3, .ref q_5, .null, .int 0, .int 0, .null, .null, .long 0, .int 0, .int 0, .int 0, .int 0])), (q_1, .inl (k_2, 55, .inr (.inl (fun _ => 0)))), (q_3, .inl (k_4, 5, .inr (.inl (fun _ => 0)))), (q_5, .inl (k_6, 320, .inr (.inl (fun _ => 0))))] := hD
  refine lv_aload_n hx hb dX2_init_28 rfl (lv_at hl 0 rfl) ?_
  refine va_new (ci := 4) (fs := [.int 0, .int 0, .int 0, .int 0, .int 0, .int 0]) (C := RX4) (T := TX4) (N := 6) hx hb hts iwX4 tyX4 tyX4_ok hown (hts _ mw_436) (hts _ mw_181) (hts _ mw_104) hK hP hD hS hA rfl (by decide +kernel) (Nat.le_of_ble_eq_true rfl) (Nat.le_of_ble_eq_true rfl) dX2_init_29 (fun q_7 H hP hD hS => ?_)
  have hP : va_P (dC, dI) CL [(a0, .inr (2, [.null, .ref q_1, .ref q_3, .ref q_5, .null, .int 0, .int 0, .null, .null, .long 0, .int 0, .int 0, .int 0, .int 0])), (q_1, .inl (k_2, 55, .inr (.inl (fun _ => 0)))), (q_3, .inl (k_4, 5, .inr (.inl (fun _ => 0)))), (q_5, .inl (k_6, 320, .inr (.inl (fun _ => 0)))), (q_7, .inr (4, [.int 0, .int 0, .int 0, .int 0, .int 0, .int 0]))] H := hP
  have hD : va_D A [(a0, .inr (2, [.null, .ref q_1, .ref q_3, .ref q_5, .null, .int 0, .int 0, .null, .null, .long 0, .int 0, .int 0, .int 0, .int 0])), (q_1, .inl (k_2, 55, .inr (.inl (fun _ => 0)))), (q_3, .inl (k_4, 5, .inr (.inl (fun _ => 0)))), (q_5, .inl (k_6, 320, .inr (.inl (fun _ => 0)))), (q_7, .inr (4, [.int 0, .int 0, .int 0, .int 0, .int 0, .int 0]))] := hD
  refine W.widen (k := 4) (n := 386) (Nat.le_of_ble_eq_true rfl) (Nat.le_of_ble_eq_true rfl) ?_
  refine lv_dup hx hb dX2_init_32 rfl ?_
  have hPc := hP.sub (ws' := [(q_7, .inr (4, [.int 0, .int 0, .int 0, .int 0, .int 0, .int 0]))]) [4] rfl
  have hDc := hD.sub (ws' := [(q_7, .inr (4, [.int 0, .int 0, .int 0, .int 0, .int 0, .int 0]))]) [4] (by decide) rfl
  have hKc := hK.sub (tys' := []) [] rfl
  have hFc := va_free (wc := [(q_7, .inr (4, [.int 0, .int 0, .int 0, .int 0, .int 0, .int 0]))]) hD hS hA [4] rfl
  refine va_callv (va_runIN (As := []) (rest := [.ref q_7, .ref a0]) ⟨hx, hb, hml, hown, hts⟩ (zX4_init l dC dI adK adV H.size q_7) ⟨va_cnB 0 hts (tb_code mw_184) rfl rfl rfl hC.p3 (hts _ mw_104) (by decide +kernel) ⟨Nat.le_of_ble_eq_true rfl, Nat.le_of_ble_eq_true rfl⟩, rfl, hts _ mw_183⟩ ⟨XB, XQ (av := [.ref q_7]) hPc hKc hDc hC hS hFc⟩ rfl rfl hl.1 rfl (lv_room (Nat.le_of_ble_eq_true rfl)) dX2_init_33 ⟨Nat.le_of_ble_eq_true rfl, Nat.le_of_ble_eq_true rfl⟩) hS (fun q _ h => hFc q h) hFc (fun u_9 t H1 locs ht hvm hw hB hz1 hk1 hS => ?_)
  try dsimp only at hw
  obtain ⟨hP1, hK1, hD1⟩ := hB
  rw [ht] at hP1
  have hK1 := va_K.moved hvm.symm hK1
  obtain ⟨hP, hD⟩ := va_join (wr := [(a0, .inr (2, [.null, .ref q_1, .ref q_3, .ref q_5, .null, .int 0, .int 0, .null, .null, .long 0, .int 0, .int 0, .int 0, .int 0])), (q_1, .inl (k_2, 55, .inr (.inl (fun _ => 0)))), (q_3, .inl (k_4, 5, .inr (.inl (fun _ => 0)))), (q_5, .inl (k_6, 320, .inr (.inl (fun _ => 0))))]) (w1 := [(q_7, .inr (4, [.int 0, .int 0, .int 0, .int 0, .int 0, .int 0]))]) hP hD [4] [0, 1, 2, 3] rfl rfl (by decide) (by decide) hk1 hFc hP1 hD1
  have hK := (hK.sub (tys' := [(k_2, .long), (k_4, .long), (k_6, .long)]) [0, 1, 2] rfl).app hK1
  generalize H1 = H at hP hS ⊢
  have hP : va_P (dC, dI) CL [(a0, .inr (2, [.null, .ref q_1, .ref q_3, .ref q_5, .null, .int 0, .int 0, .null, .null, .long 0, .int 0, .int 0, .int 0, .int 0])), (q_1, .inl (k_2, 55, .inr (.inl (fun _ => 0)))), (q_3, .inl (k_4, 5, .inr (.inl (fun _ => 0)))), (q_5, .inl (k_6, 320, .inr (.inl (fun _ => 0)))), (q_7, .inr (4, [.int 0, .int 0, .int 0, .int 0, .int 0, .int 0]))] H := hP
  have hD : va_D A [(a0, .inr (2, [.null, .ref q_1, .ref q_3, .ref q_5, .null, .int 0, .int 0, .null, .null, .long 0, .int 0, .int 0, .int 0, .int 0])), (q_1, .inl (k_2, 55, .inr (.inl (fun _ => 0)))), (q_3, .inl (k_4, 5, .inr (.inl (fun _ => 0)))), (q_5, .inl (k_6, 320, .inr (.inl (fun _ => 0)))), (q_7, .inr (4, [.int 0, .int 0, .int 0, .int 0, .int 0, .int 0]))] := hD
  have hK : va_K (dC, dI) CL [(k_2, .long), (k_4, .long), (k_6, .long)] s := hK
  refine va_putF (D := (dC, dI)) (ci := 2) (v := .ref q_7) (ty := .object "HalfCourt$Look") (C := RX2) (T := TX2) (N := 14) hx hb hts iwX2 tyX2 tyX2_ok nmX2 hown hK hP hD hS 0 rfl rfl 4 (by decide) (hts _ mw_443) (fun _ h9 => h9) rfl hin rfl (by decide +kernel) rfl rfl (Nat.le_of_ble_eq_true rfl) dX2_init_36 (fun H locs hP hD hS => ?_)
  have hP : va_P (dC, dI) CL [(a0, .inr (2, [.null, .ref q_1, .ref q_3, .ref q_5, .ref q_7, .int 0, .int 0, .null, .null, .long 0, .int 0, .int 0, .int 0, .int 0])), (q_1, .inl (k_2, 55, .inr (.inl (fun _ => 0)))), (q_3, .inl (k_4, 5, .inr (.inl (fun _ => 0)))), (q_5, .inl (k_6, 320, .inr (.inl (fun _ => 0)))), (q_7, .inr (4, [.int 0, .int 0, .int 0, .int 0, .int 0, .int 0]))] H := hP
  have hD : va_D A [(a0, .inr (2, [.null, .ref q_1, .ref q_3, .ref q_5, .ref q_7, .int 0, .int 0, .null, .null, .long 0, .int 0, .int 0, .int 0, .int 0])), (q_1, .inl (k_2, 55, .inr (.inl (fun _ => 0)))), (q_3, .inl (k_4, 5, .inr (.inl (fun _ => 0)))), (q_5, .inl (k_6, 320, .inr (.inl (fun _ => 0)))), (q_7, .inr (4, [.int 0, .int 0, .int 0, .int 0, .int 0, .int 0]))] := hD
  refine lv_aload_n hx hb dX2_init_39 rfl (lv_at hl 0 rfl) ?_
  refine lv_iconst (v := 0) hx hb dX2_init_40 (by decide) ?_
  refine va_put (D := (dC, dI)) (ci := 2) (v := .int 0) (ty := .int) (C := RX2) (T := TX2) (N := 14) hx hb hts iwX2 tyX2 tyX2_ok nmX2 hown hK hP hD hS 0 rfl rfl 5 (by decide) (hts _ mw_444) (fun _ h9 => h9) rfl (by decide +kernel) rfl rfl (Nat.le_of_ble_eq_true rfl) dX2_init_41 (fun H locs hP hD hS => ?_)
  have hP : va_P (dC, dI) CL [(a0, .inr (2, [.null, .ref q_1, .ref q_3, .ref q_5, .ref q_7, .int 0, .int 0, .null, .null, .long 0, .int 0, .int 0, .int 0, .int 0])), (q_1, .inl (k_2, 55, .inr (.inl (fun _ => 0)))), (q_3, .inl (k_4, 5, .inr (.inl (fun _ => 0)))), (q_5, .inl (k_6, 320, .inr (.inl (fun _ => 0)))), (q_7, .inr (4, [.int 0, .int 0, .int 0, .int 0, .int 0, .int 0]))] H := hP
  have hD : va_D A [(a0, .inr (2, [.null, .ref q_1, .ref q_3, .ref q_5, .ref q_7, .int 0, .int 0, .null, .null, .long 0, .int 0, .int 0, .int 0, .int 0])), (q_1, .inl (k_2, 55, .inr (.inl (fun _ => 0)))), (q_3, .inl (k_4, 5, .inr (.inl (fun _ => 0)))), (q_5, .inl (k_6, 320, .inr (.inl (fun _ => 0)))), (q_7, .inr (4, [.int 0, .int 0, .int 0, .int 0, .int 0, .int 0]))] := hD
  refine lv_aload_n hx hb dX2_init_44 rfl (lv_at hl 0 rfl) ?_
  refine lv_iconst (v := 0) hx hb dX2_init_45 (by decide) ?_
  refine va_put (D := (dC, dI)) (ci := 2) (v := .int 0) (ty := .boolean) (C := RX2) (T := TX2) (N := 14) hx hb hts iwX2 tyX2 tyX2_ok nmX2 hown hK hP hD hS 0 rfl rfl 6 (by decide) (hts _ mw_445) (fun _ h9 => h9) rfl (by decide +kernel) rfl rfl (Nat.le_of_ble_eq_true rfl) dX2_init_46 (fun H locs hP hD hS => ?_)
  have hP : va_P (dC, dI) CL [(a0, .inr (2, [.null, .ref q_1, .ref q_3, .ref q_5, .ref q_7, .int 0, .int 0, .null, .null, .long 0, .int 0, .int 0, .int 0, .int 0])), (q_1, .inl (k_2, 55, .inr (.inl (fun _ => 0)))), (q_3, .inl (k_4, 5, .inr (.inl (fun _ => 0)))), (q_5, .inl (k_6, 320, .inr (.inl (fun _ => 0)))), (q_7, .inr (4, [.int 0, .int 0, .int 0, .int 0, .int 0, .int 0]))] H := hP
  have hD : va_D A [(a0, .inr (2, [.null, .ref q_1, .ref q_3, .ref q_5, .ref q_7, .int 0, .int 0, .null, .null, .long 0, .int 0, .int 0, .int 0, .int 0])), (q_1, .inl (k_2, 55, .inr (.inl (fun _ => 0)))), (q_3, .inl (k_4, 5, .inr (.inl (fun _ => 0)))), (q_5, .inl (k_6, 320, .inr (.inl (fun _ => 0)))), (q_7, .inr (4, [.int 0, .int 0, .int 0, .int 0, .int 0, .int 0]))] := hD
  refine lv_aload_n hx hb dX2_init_49 rfl (lv_at hl 0 rfl) ?_
  refine lv_bipush (v := 10) hx hb dX2_init_50 (by decide) ?_
  refine va_newa (atype := .int) (n := 10) (N' := 10) (ty := .int) (a0 := (10, .inl (fun _ => 0))) hx hb (hts _ mw_155) rfl hK hP hD hS hA (fun _ => rfl) (by decide) (by decide) (by decide) (Nat.le_of_ble_eq_true rfl) (Nat.le_of_ble_eq_true rfl) dX2_init_52 (fun q_9 k_10 H hK hP hD hS => ?_)
  have hK : va_K (dC, dI) CL [(k_2, .long), (k_4, .long), (k_6, .long), (k_10, .int)] s := hK
  have hP : va_P (dC, dI) CL [(a0, .inr (2, [.null, .ref q_1, .ref q_3, .ref q_5, .ref q_7, .int 0, .int 0, .null, .null, .long 0, .int 0, .int 0, .int 0, .int 0])), (q_1, .inl (k_2, 55, .inr (.inl (fun _ => 0)))), (q_3, .inl (k_4, 5, .inr (.inl (fun _ => 0)))), (q_5, .inl (k_6, 320, .inr (.inl (fun _ => 0)))), (q_7, .inr (4, [.int 0, .int 0, .int 0, .int 0, .int 0, .int 0])), (q_9, .inl (k_10, 10, .inl (fun _ => 0)))] H := hP
  have hD : va_D A [(a0, .inr (2, [.null, .ref q_1, .ref q_3, .ref q_5, .ref q_7, .int 0, .int 0, .null, .null, .long 0, .int 0, .int 0, .int 0, .int 0])), (q_1, .inl (k_2, 55, .inr (.inl (fun _ => 0)))), (q_3, .inl (k_4, 5, .inr (.inl (fun _ => 0)))), (q_5, .inl (k_6, 320, .inr (.inl (fun _ => 0)))), (q_7, .inr (4, [.int 0, .int 0, .int 0, .int 0, .int 0, .int 0])), (q_9, .inl (k_10, 10, .inl (fun _ => 0)))] := hD
  refine W.widen (k := 5) (n := 396) (Nat.le_of_ble_eq_true rfl) (Nat.le_of_ble_eq_true rfl) ?_
  refine va_putF (D := (dC, dI)) (ci := 2) (v := .ref q_9) (ty := .array .int) (C := RX2) (T := TX2) (N := 14) hx hb hts iwX2 tyX2 tyX2_ok nmX2 hown hK hP hD hS 0 rfl rfl 7 (by decide) (hts _ mw_446) (fun _ h9 => h9) rfl hin rfl (by decide +kernel) rfl rfl (Nat.le_of_ble_eq_true rfl) dX2_init_54 (fun H locs hP hD hS => ?_)
  have hP : va_P (dC, dI) CL [(a0, .inr (2, [.null, .ref q_1, .ref q_3, .ref q_5, .ref q_7, .int 0, .int 0, .ref q_9, .null, .long 0, .int 0, .int 0, .int 0, .int 0])), (q_1, .inl (k_2, 55, .inr (.inl (fun _ => 0)))), (q_3, .inl (k_4, 5, .inr (.inl (fun _ => 0)))), (q_5, .inl (k_6, 320, .inr (.inl (fun _ => 0)))), (q_7, .inr (4, [.int 0, .int 0, .int 0, .int 0, .int 0, .int 0])), (q_9, .inl (k_10, 10, .inl (fun _ => 0)))] H := hP
  have hD : va_D A [(a0, .inr (2, [.null, .ref q_1, .ref q_3, .ref q_5, .ref q_7, .int 0, .int 0, .ref q_9, .null, .long 0, .int 0, .int 0, .int 0, .int 0])), (q_1, .inl (k_2, 55, .inr (.inl (fun _ => 0)))), (q_3, .inl (k_4, 5, .inr (.inl (fun _ => 0)))), (q_5, .inl (k_6, 320, .inr (.inl (fun _ => 0)))), (q_7, .inr (4, [.int 0, .int 0, .int 0, .int 0, .int 0, .int 0])), (q_9, .inl (k_10, 10, .inl (fun _ => 0)))] := hD
  refine lv_aload_n hx hb dX2_init_57 rfl (lv_at hl 0 rfl) ?_
  refine lv_bipush (v := 10) hx hb dX2_init_58 (by decide) ?_
  refine va_newa (atype := .long) (n := 10) (N' := 10) (ty := .long) (a0 := (10, .inr (.inl (fun _ => 0)))) hx hb (hts _ mw_156) rfl hK hP hD hS hA (fun _ => rfl) (by decide) (by decide) (by decide) (Nat.le_of_ble_eq_true rfl) (Nat.le_of_ble_eq_true rfl) dX2_init_60 (fun q_11 k_12 H hK hP hD hS => ?_)
  have hK : va_K (dC, dI) CL [(k_2, .long), (k_4, .long), (k_6, .long), (k_10, .int), (k_12, .long)] s := hK
  have hP : va_P (dC, dI) CL [(a0, .inr (2, [.null, .ref q_1, .ref q_3, .ref q_5, .ref q_7, .int 0, .int 0, .ref q_9, .null, .long 0, .int 0, .int 0, .int 0, .int 0])), (q_1, .inl (k_2, 55, .inr (.inl (fun _ => 0)))), (q_3, .inl (k_4, 5, .inr (.inl (fun _ => 0)))), (q_5, .inl (k_6, 320, .inr (.inl (fun _ => 0)))), (q_7, .inr (4, [.int 0, .int 0, .int 0, .int 0, .int 0, .int 0])), (q_9, .inl (k_10, 10, .inl (fun _ => 0))), (q_11, .inl (k_12, 10, .inr (.inl (fun _ => 0))))] H := hP
  have hD : va_D A [(a0, .inr (2, [.null, .ref q_1, .ref q_3, .ref q_5, .ref q_7, .int 0, .int 0, .ref q_9, .null, .long 0, .int 0, .int 0, .int 0, .int 0])), (q_1, .inl (k_2, 55, .inr (.inl (fun _ => 0)))), (q_3, .inl (k_4, 5, .inr (.inl (fun _ => 0)))), (q_5, .inl (k_6, 320, .inr (.inl (fun _ => 0)))), (q_7, .inr (4, [.int 0, .int 0, .int 0, .int 0, .int 0, .int 0])), (q_9, .inl (k_10, 10, .inl (fun _ => 0))), (q_11, .inl (k_12, 10, .inr (.inl (fun _ => 0))))] := hD
  refine W.widen (k := 6) (n := 406) (Nat.le_of_ble_eq_true rfl) (Nat.le_of_ble_eq_true rfl) ?_
  refine va_putF (D := (dC, dI)) (ci := 2) (v := .ref q_11) (ty := .array .long) (C := RX2) (T := TX2) (N := 14) hx hb hts iwX2 tyX2 tyX2_ok nmX2 hown hK hP hD hS 0 rfl rfl 8 (by decide) (hts _ mw_448) (fun _ h9 => h9) rfl hin rfl (by decide +kernel) rfl rfl (Nat.le_of_ble_eq_true rfl) dX2_init_62 (fun H locs hP hD hS => ?_)
  have hP : va_P (dC, dI) CL [(a0, .inr (2, [.null, .ref q_1, .ref q_3, .ref q_5, .ref q_7, .int 0, .int 0, .ref q_9, .ref q_11, .long 0, .int 0, .int 0, .int 0, .int 0])), (q_1, .inl (k_2, 55, .inr (.inl (fun _ => 0)))), (q_3, .inl (k_4, 5, .inr (.inl (fun _ => 0)))), (q_5, .inl (k_6, 320, .inr (.inl (fun _ => 0)))), (q_7, .inr (4, [.int 0, .int 0, .int 0, .int 0, .int 0, .int 0])), (q_9, .inl (k_10, 10, .inl (fun _ => 0))), (q_11, .inl (k_12, 10, .inr (.inl (fun _ => 0))))] H := hP
  have hD : va_D A [(a0, .inr (2, [.null, .ref q_1, .ref q_3, .ref q_5, .ref q_7, .int 0, .int 0, .ref q_9, .ref q_11, .long 0, .int 0, .int 0, .int 0, .int 0])), (q_1, .inl (k_2, 55, .inr (.inl (fun _ => 0)))), (q_3, .inl (k_4, 5, .inr (.inl (fun _ => 0)))), (q_5, .inl (k_6, 320, .inr (.inl (fun _ => 0)))), (q_7, .inr (4, [.int 0, .int 0, .int 0, .int 0, .int 0, .int 0])), (q_9, .inl (k_10, 10, .inl (fun _ => 0))), (q_11, .inl (k_12, 10, .inr (.inl (fun _ => 0))))] := hD
  refine lv_aload_n hx hb dX2_init_65 rfl (lv_at hl 0 rfl) ?_
  refine lv_lconst (v := 0) hx hb dX2_init_66 (by decide) ?_
  refine va_put (D := (dC, dI)) (ci := 2) (v := .long 0) (ty := .long) (C := RX2) (T := TX2) (N := 14) hx hb hts iwX2 tyX2 tyX2_ok nmX2 hown hK hP hD hS 0 rfl rfl 9 (by decide) (hts _ mw_451) (fun _ h9 => h9) rfl (by decide +kernel) rfl rfl (Nat.le_of_ble_eq_true rfl) dX2_init_67 (fun H locs hP hD hS => ?_)
  have hP : va_P (dC, dI) CL [(a0, .inr (2, [.null, .ref q_1, .ref q_3, .ref q_5, .ref q_7, .int 0, .int 0, .ref q_9, .ref q_11, .long 0, .int 0, .int 0, .int 0, .int 0])), (q_1, .inl (k_2, 55, .inr (.inl (fun _ => 0)))), (q_3, .inl (k_4, 5, .inr (.inl (fun _ => 0)))), (q_5, .inl (k_6, 320, .inr (.inl (fun _ => 0)))), (q_7, .inr (4, [.int 0, .int 0, .int 0, .int 0, .int 0, .int 0])), (q_9, .inl (k_10, 10, .inl (fun _ => 0))), (q_11, .inl (k_12, 10, .inr (.inl (fun _ => 0))))] H := hP
  have hD : va_D A [(a0, .inr (2, [.null, .ref q_1, .ref q_3, .ref q_5, .ref q_7, .int 0, .int 0, .ref q_9, .ref q_11, .long 0, .int 0, .int 0, .int 0, .int 0])), (q_1, .inl (k_2, 55, .inr (.inl (fun _ => 0)))), (q_3, .inl (k_4, 5, .inr (.inl (fun _ => 0)))), (q_5, .inl (k_6, 320, .inr (.inl (fun _ => 0)))), (q_7, .inr (4, [.int 0, .int 0, .int 0, .int 0, .int 0, .int 0])), (q_9, .inl (k_10, 10, .inl (fun _ => 0))), (q_11, .inl (k_12, 10, .inr (.inl (fun _ => 0))))] := hD
  refine lv_aload_n hx hb dX2_init_70 rfl (lv_at hl 0 rfl) ?_
  refine lv_iconst (v := 0) hx hb dX2_init_71 (by decide) ?_
  refine va_put (D := (dC, dI)) (ci := 2) (v := .int 0) (ty := .int) (C := RX2) (T := TX2) (N := 14) hx hb hts iwX2 tyX2 tyX2_ok nmX2 hown hK hP hD hS 0 rfl rfl 10 (by decide) (hts _ mw_454) (fun _ h9 => h9) rfl (by decide +kernel) rfl rfl (Nat.le_of_ble_eq_true rfl) dX2_init_72 (fun H locs hP hD hS => ?_)
  have hP : va_P (dC, dI) CL [(a0, .inr (2, [.null, .ref q_1, .ref q_3, .ref q_5, .ref q_7, .int 0, .int 0, .ref q_9, .ref q_11, .long 0, .int 0, .int 0, .int 0, .int 0])), (q_1, .inl (k_2, 55, .inr (.inl (fun _ => 0)))), (q_3, .inl (k_4, 5, .inr (.inl (fun _ => 0)))), (q_5, .inl (k_6, 320, .inr (.inl (fun _ => 0)))), (q_7, .inr (4, [.int 0, .int 0, .int 0, .int 0, .int 0, .int 0])), (q_9, .inl (k_10, 10, .inl (fun _ => 0))), (q_11, .inl (k_12, 10, .inr (.inl (fun _ => 0))))] H := hP
  have hD : va_D A [(a0, .inr (2, [.null, .ref q_1, .ref q_3, .ref q_5, .ref q_7, .int 0, .int 0, .ref q_9, .ref q_11, .long 0, .int 0, .int 0, .int 0, .int 0])), (q_1, .inl (k_2, 55, .inr (.inl (fun _ => 0)))), (q_3, .inl (k_4, 5, .inr (.inl (fun _ => 0)))), (q_5, .inl (k_6, 320, .inr (.inl (fun _ => 0)))), (q_7, .inr (4, [.int 0, .int 0, .int 0, .int 0, .int 0, .int 0])), (q_9, .inl (k_10, 10, .inl (fun _ => 0))), (q_11, .inl (k_12, 10, .inr (.inl (fun _ => 0))))] := hD
  refine lv_aload_n hx hb dX2_init_75 rfl (lv_at hl 0 rfl) ?_
  refine lv_iconst (v := 0) hx hb dX2_init_76 (by decide) ?_
  refine va_put (D := (dC, dI)) (ci := 2) (v := .int 0) (ty := .int) (C := RX2) (T := TX2) (N := 14) hx hb hts iwX2 tyX2 tyX2_ok nmX2 hown hK hP hD hS 0 rfl rfl 11 (by decide) (hts _ mw_456) (fun _ h9 => h9) rfl (by decide +kernel) rfl rfl (Nat.le_of_ble_eq_true rfl) dX2_init_77 (fun H locs hP hD hS => ?_)
  have hP : va_P (dC, dI) CL [(a0, .inr (2, [.null, .ref q_1, .ref q_3, .ref q_5, .ref q_7, .int 0, .int 0, .ref q_9, .ref q_11, .long 0, .int 0, .int 0, .int 0, .int 0])), (q_1, .inl (k_2, 55, .inr (.inl (fun _ => 0)))), (q_3, .inl (k_4, 5, .inr (.inl (fun _ => 0)))), (q_5, .inl (k_6, 320, .inr (.inl (fun _ => 0)))), (q_7, .inr (4, [.int 0, .int 0, .int 0, .int 0, .int 0, .int 0])), (q_9, .inl (k_10, 10, .inl (fun _ => 0))), (q_11, .inl (k_12, 10, .inr (.inl (fun _ => 0))))] H := hP
  have hD : va_D A [(a0, .inr (2, [.null, .ref q_1, .ref q_3, .ref q_5, .ref q_7, .int 0, .int 0, .ref q_9, .ref q_11, .long 0, .int 0, .int 0, .int 0, .int 0])), (q_1, .inl (k_2, 55, .inr (.inl (fun _ => 0)))), (q_3, .inl (k_4, 5, .inr (.inl (fun _ => 0)))), (q_5, .inl (k_6, 320, .inr (.inl (fun _ => 0)))), (q_7, .inr (4, [.int 0, .int 0, .int 0, .int 0, .int 0, .int 0])), (q_9, .inl (k_10, 10, .inl (fun _ => 0))), (q_11, .inl (k_12, 10, .inr (.inl (fun _ => 0))))] := hD
  refine lv_aload_n hx hb dX2_init_80 rfl (lv_at hl 0 rfl) ?_
  refine lv_iconst (v := 0) hx hb dX2_init_81 (by decide) ?_
  refine va_put (D := (dC, dI)) (ci := 2) (v := .int 0) (ty := .int) (C := RX2) (T := TX2) (N := 14) hx hb hts iwX2 tyX2 tyX2_ok nmX2 hown hK hP hD hS 0 rfl rfl 12 (by decide) (hts _ mw_458) (fun _ h9 => h9) rfl (by decide +kernel) rfl rfl (Nat.le_of_ble_eq_true rfl) dX2_init_82 (fun H locs hP hD hS => ?_)
  have hP : va_P (dC, dI) CL [(a0, .inr (2, [.null, .ref q_1, .ref q_3, .ref q_5, .ref q_7, .int 0, .int 0, .ref q_9, .ref q_11, .long 0, .int 0, .int 0, .int 0, .int 0])), (q_1, .inl (k_2, 55, .inr (.inl (fun _ => 0)))), (q_3, .inl (k_4, 5, .inr (.inl (fun _ => 0)))), (q_5, .inl (k_6, 320, .inr (.inl (fun _ => 0)))), (q_7, .inr (4, [.int 0, .int 0, .int 0, .int 0, .int 0, .int 0])), (q_9, .inl (k_10, 10, .inl (fun _ => 0))), (q_11, .inl (k_12, 10, .inr (.inl (fun _ => 0))))] H := hP
  have hD : va_D A [(a0, .inr (2, [.null, .ref q_1, .ref q_3, .ref q_5, .ref q_7, .int 0, .int 0, .ref q_9, .ref q_11, .long 0, .int 0, .int 0, .int 0, .int 0])), (q_1, .inl (k_2, 55, .inr (.inl (fun _ => 0)))), (q_3, .inl (k_4, 5, .inr (.inl (fun _ => 0)))), (q_5, .inl (k_6, 320, .inr (.inl (fun _ => 0)))), (q_7, .inr (4, [.int 0, .int 0, .int 0, .int 0, .int 0, .int 0])), (q_9, .inl (k_10, 10, .inl (fun _ => 0))), (q_11, .inl (k_12, 10, .inr (.inl (fun _ => 0))))] := hD
  refine lv_aload_n hx hb dX2_init_85 rfl (lv_at hl 0 rfl) ?_
  refine lv_iconst (v := (-1)) hx hb dX2_init_86 (by decide) ?_
  refine va_put (D := (dC, dI)) (ci := 2) (v := .int (-1)) (ty := .int) (C := RX2) (T := TX2) (N := 14) hx hb hts iwX2 tyX2 tyX2_ok nmX2 hown hK hP hD hS 0 rfl rfl 13 (by decide) (hts _ mw_460) (fun _ h9 => h9) rfl (by decide +kernel) rfl rfl (Nat.le_of_ble_eq_true rfl) dX2_init_87 (fun H locs hP hD hS => ?_)
  have hP : va_P (dC, dI) CL [(a0, .inr (2, [.null, .ref q_1, .ref q_3, .ref q_5, .ref q_7, .int 0, .int 0, .ref q_9, .ref q_11, .long 0, .int 0, .int 0, .int 0, .int (-1)])), (q_1, .inl (k_2, 55, .inr (.inl (fun _ => 0)))), (q_3, .inl (k_4, 5, .inr (.inl (fun _ => 0)))), (q_5, .inl (k_6, 320, .inr (.inl (fun _ => 0)))), (q_7, .inr (4, [.int 0, .int 0, .int 0, .int 0, .int 0, .int 0])), (q_9, .inl (k_10, 10, .inl (fun _ => 0))), (q_11, .inl (k_12, 10, .inr (.inl (fun _ => 0))))] H := hP
  have hD : va_D A [(a0, .inr (2, [.null, .ref q_1, .ref q_3, .ref q_5, .ref q_7, .int 0, .int 0, .ref q_9, .ref q_11, .long 0, .int 0, .int 0, .int 0, .int (-1)])), (q_1, .inl (k_2, 55, .inr (.inl (fun _ => 0)))), (q_3, .inl (k_4, 5, .inr (.inl (fun _ => 0)))), (q_5, .inl (k_6, 320, .inr (.inl (fun _ => 0)))), (q_7, .inr (4, [.int 0, .int 0, .int 0, .int 0, .int 0, .int 0])), (q_9, .inl (k_10, 10, .inl (fun _ => 0))), (q_11, .inl (k_12, 10, .inr (.inl (fun _ => 0))))] := hD
  refine lv_aload_n hx hb dX2_init_90 rfl (lv_at hl 0 rfl) ?_
  refine lv_aload_n hx hb dX2_init_91 rfl (lv_at hl 1 rfl) ?_
  refine va_put (D := (dC, dI)) (ci := 2) (v := .ref a1) (ty := .object "HalfCourt$CaseFile") (C := RX2) (T := TX2) (N := 14) hx hb hts iwX2 tyX2 tyX2_ok nmX2 hown hK hP hD hS 0 rfl rfl 0 (by decide) (hts _ mw_438) (fun _ h9 => h9) rfl (by decide +kernel) rfl rfl (Nat.le_of_ble_eq_true rfl) dX2_init_92 (fun H locs hP hD hS => ?_)
  have hP : va_P (dC, dI) CL [(a0, .inr (2, [.ref a1, .ref q_1, .ref q_3, .ref q_5, .ref q_7, .int 0, .int 0, .ref q_9, .ref q_11, .long 0, .int 0, .int 0, .int 0, .int (-1)])), (q_1, .inl (k_2, 55, .inr (.inl (fun _ => 0)))), (q_3, .inl (k_4, 5, .inr (.inl (fun _ => 0)))), (q_5, .inl (k_6, 320, .inr (.inl (fun _ => 0)))), (q_7, .inr (4, [.int 0, .int 0, .int 0, .int 0, .int 0, .int 0])), (q_9, .inl (k_10, 10, .inl (fun _ => 0))), (q_11, .inl (k_12, 10, .inr (.inl (fun _ => 0))))] H := hP
  have hD : va_D A [(a0, .inr (2, [.ref a1, .ref q_1, .ref q_3, .ref q_5, .ref q_7, .int 0, .int 0, .ref q_9, .ref q_11, .long 0, .int 0, .int 0, .int 0, .int (-1)])), (q_1, .inl (k_2, 55, .inr (.inl (fun _ => 0)))), (q_3, .inl (k_4, 5, .inr (.inl (fun _ => 0)))), (q_5, .inl (k_6, 320, .inr (.inl (fun _ => 0)))), (q_7, .inr (4, [.int 0, .int 0, .int 0, .int 0, .int 0, .int 0])), (q_9, .inl (k_10, 10, .inl (fun _ => 0))), (q_11, .inl (k_12, 10, .inr (.inl (fun _ => 0))))] := hD
  refine W.widen (k := 6) (n := 406) (Nat.le_of_ble_eq_true rfl) (Nat.le_of_ble_eq_true rfl) ?_
  have hP9 := hP.sub (ws' := [(a0, .inr (2, [.ref a1, .ref q_1, .ref q_3, .ref q_5, .ref q_7, .int 0, .int 0, .ref q_9, .ref q_11, .long 0, .int 0, .int 0, .int 0, .int (-1)])), (q_3, .inl (k_4, 5, .inr (.inl (fun _ => 0)))), (q_7, .inr (4, [.int 0, .int 0, .int 0, .int 0, .int 0, .int 0]))]) [0, 2, 4] rfl
  have hD9 := hD.sub (ws' := [(a0, .inr (2, [.ref a1, .ref q_1, .ref q_3, .ref q_5, .ref q_7, .int 0, .int 0, .ref q_9, .ref q_11, .long 0, .int 0, .int 0, .int 0, .int (-1)])), (q_3, .inl (k_4, 5, .inr (.inl (fun _ => 0)))), (q_7, .inr (4, [.int 0, .int 0, .int 0, .int 0, .int 0, .int 0]))]) [0, 2, 4] (by decide) rfl
  have hK9 := hK.sub (tys' := [(k_4, .long)]) [1] rfl
  exact W.vret hx hb hr (fun t ht hW => ⟨⟨(), rfl, trivial, q_1, q_3, q_5, q_7, q_9, q_11, k_4, by rw [ht]; exact hP9, va_K.moved hW.alike hK9, hD9⟩, hS.F ht⟩) hS.2.2 dX2_init_95
set_option maxHeartbeats 4000000 in
set_option maxRecDepth 100000 in
theorem zX6_init (l : Launch) (dC : Nat → ClassId) (dI : Nat → Nat → Nat) (adK adV : Nat → Nat) (sz : Nat) (a0 : Nat) (a1 : Nat) : Met l yX6_init (Cond.code yX6_init cX6_init 2 none :: TB) ({ frames := 1, cells := 3, slots := 768, locals := 100 }) (XP (dC, dI) adK adV [.ref a0, .ref a1] sz [(a0, .inr (6, [.null, .int 0, .null, .null, .null]))] []) (va_Qv (fun _ : Unit => True) (fun _ t => ∃ q_1 : Nat, ∃ q_3 : Nat, ∃ q_5 : Nat, ∃ k_2 : ClassId, ∃ k_4 : ClassId, ∃ k_6 : ClassId, va_P (dC, dI) CL [(a0, .inr (6, [.ref a1, .int 0, .ref q_1, .ref q_3, .ref q_5])), (q_1, .inl (k_2, 256, .inl (fun _ => 0))), (q_3, .inl (k_4, 256, .inl (fun _ => 0))), (q_5, .inl (k_6, 256, .inl (fun _ => 0)))] t.heap ∧ va_K (dC, dI) CL [(k_2, .int), (k_4, .int), (k_6, .int)] t ∧ va_D (va_A [(a0, .inr (6, [.null, .int 0, .null, .null, .null]))] sz) [(a0, .inr (6, [.ref a1, .int 0, .ref q_1, .ref q_3, .ref q_5])), (q_1, .inl (k_2, 256, .inl (fun _ => 0))), (q_3, .inl (k_4, 256, .inl (fun _ => 0))), (q_5, .inl (k_6, 256, .inl (fun _ => 0)))]) (va_A [(a0, .inr (6, [.null, .int 0, .null, .null, .null]))] sz)) 3 768 (va_A [(a0, .inr (6, [.null, .int 0, .null, .null, .null]))] sz) := by
  refine Met.ofW (cc := cX6_init) (maxL := 2) (ret := none) (by decide) rfl ?_
  intro p e s m args below meth c s₁ B hml hv
  obtain ⟨rfl, hsz, hP, hK, hD0, hC⟩ := hv
  have hx := B.exec
  have hb := B.bytes
  have hr := B.returns
  have hts0 := atoms_spec (ws := Cond.code yX6_init cX6_init 2 none :: TB) B.pre
  have hts : ∀ w ∈ TB, w.before _ s = true := fun w h => hts0 w (List.mem_cons_of_mem _ h)
  have hown : s.vm.findClass RX6 = some m.cls := findClass_of_methodNamed B.named
  have hlocks := B.notSynchronized
  have hin : meth.name = "<init>" := (name_of_methodNamed B.named B.method).1
  subst hsz
  have hD := hD0.self (sz := s.heap.size)
  generalize hAe : va_A [(a0, .inr (6, [.null, .int 0, .null, .null, .null]))] s.heap.size = A at hD hC ⊢
  have hA : ∀ q : Nat, s.heap.size ≤ q → A q := fun q h => by rw [← hAe]; exact Or.inr h
  have hl := lv_entry ([.ref a0, .ref a1]) (n := 2) (Nat.le_of_ble_eq_true rfl)
  rw [lg_entry_eq]
  generalize (lg_sl ([.ref a0, .ref a1]) ++ List.replicate (2 - (lg_sl ([.ref a0, .ref a1])).length) Slot.unset).toArray = ls at hl ⊢
  have hl : lv_has ls 2 [(0, .ref a0), (1, .ref a1)] := hl
  have hP : va_P (dC, dI) CL [(a0, .inr (6, [.null, .int 0, .null, .null, .null]))] s.heap := hP
  obtain ⟨H, hH⟩ : ∃ z, z = s.heap := ⟨_, rfl⟩
  rw [← hH] at hP ⊢
  have hS : va_S A s.heap H [] := by rw [hH]; exact va_S.rf
  refine lv_aload_n hx hb dX6_init_0 rfl (lv_at hl 0 rfl) ?_
  refine W.objInit hx hb hown (hts _ mw_496) (hts _ mw_125) (hts _ mw_126) rfl (by rw [hml]; exact hl.1) rfl dX6_init_1 (Nat.le_of_ble_eq_true rfl) (Nat.le_of_ble_eq_true rfl) ?_
  refine W.eq (g2 := F0 m 4 ls []) rfl ?_
  refine lv_aload_n hx hb dX6_init_4 rfl (lv_at hl 0 rfl) ?_
  refine lv_iconst (v := 0) hx hb dX6_init_5 (by decide) ?_
  refine va_put (D := (dC, dI)) (ci := 6) (v := .int 0) (ty := .boolean) (C := RX6) (T := TX6) (N := 5) hx hb hts iwX6 tyX6 tyX6_ok nmX6 hown hK hP hD hS 0 rfl rfl 1 (by decide) (hts _ mw_498) (fun _ h9 => h9) rfl (by decide +kernel) rfl rfl (Nat.le_of_ble_eq_true rfl) dX6_init_6 (fun H locs hP hD hS => ?_)
  have hP : va_P (dC, dI) CL [(a0, .inr (6, [.null, .int 0, .null, .null, .null]))] H := hP
  have hD : va_D A [(a0, .inr (6, [.null, .int 0, .null, .null, .null]))] := hD
  refine lv_aload_n hx hb dX6_init_9 rfl (lv_at hl 0 rfl) ?_
  refine lv_sipush (v := 256) hx hb dX6_init_10 (by decide) ?_
  refine va_newa (atype := .int) (n := 256) (N' := 256) (ty := .int) (a0 := (256, .inl (fun _ => 0))) hx hb (hts _ mw_155) rfl hK hP hD hS hA (fun _ => rfl) (by decide) (by decide) (by decide) (Nat.le_of_ble_eq_true rfl) (Nat.le_of_ble_eq_true rfl) dX6_init_13 (fun q_1 k_2 H hK hP hD hS => ?_)
  have hK : va_K (dC, dI) CL [(k_2, .int)] s := hK
  have hP : va_P (dC, dI) CL [(a0, .inr (6, [.null, .int 0, .null, .null, .null])), (q_1, .inl (k_2, 256, .inl (fun _ => 0)))] H := hP
  have hD : va_D A [(a0, .inr (6, [.null, .int 0, .null, .null, .null])), (q_1, .inl (k_2, 256, .inl (fun _ => 0)))] := hD
  refine W.widen (k := 1) (n := 256) (Nat.le_of_ble_eq_true rfl) (Nat.le_of_ble_eq_true rfl) ?_
  refine va_putF (D := (dC, dI)) (ci := 6) (v := .ref q_1) (ty := .array .int) (C := RX6) (T := TX6) (N := 5) hx hb hts iwX6 tyX6 tyX6_ok nmX6 hown hK hP hD hS 0 rfl rfl 2 (by decide) (hts _ mw_499) (fun _ h9 => h9) rfl hin rfl (by decide +kernel) rfl rfl (Nat.le_of_ble_eq_true rfl) dX6_init_15 (fun H locs hP hD hS => ?_)
  have hP : va_P (dC, dI) CL [(a0, .inr (6, [.null, .int 0, .ref q_1, .null, .null])), (q_1, .inl (k_2, 256, .inl (fun _ => 0)))] H := hP
  have hD : va_D A [(a0, .inr (6, [.null, .int 0, .ref q_1, .null, .null])), (q_1, .inl (k_2, 256, .inl (fun _ => 0)))] := hD
  refine lv_aload_n hx hb dX6_init_18 rfl (lv_at hl 0 rfl) ?_
  refine lv_sipush (v := 256) hx hb dX6_init_19 (by decide) ?_
  refine va_newa (atype := .int) (n := 256) (N' := 256) (ty := .int) (a0 := (256, .inl (fun _ => 0))) hx hb (hts _ mw_155) rfl hK hP hD hS hA (fun _ => rfl) (by decide) (by decide) (by decide) (Nat.le_of_ble_eq_true rfl) (Nat.le_of_ble_eq_true rfl) dX6_init_22 (fun q_3 k_4 H hK hP hD hS => ?_)
  have hK : va_K (dC, dI) CL [(k_2, .int), (k_4, .int)] s := hK
  have hP : va_P (dC, dI) CL [(a0, .inr (6, [.null, .int 0, .ref q_1, .null, .null])), (q_1, .inl (k_2, 256, .inl (fun _ => 0))), (q_3, .inl (k_4, 256, .inl (fun _ => 0)))] H := hP
  have hD : va_D A [(a0, .inr (6, [.null, .int 0, .ref q_1, .null, .null])), (q_1, .inl (k_2, 256, .inl (fun _ => 0))), (q_3, .inl (k_4, 256, .inl (fun _ => 0)))] := hD
  refine W.widen (k := 2) (n := 512) (Nat.le_of_ble_eq_true rfl) (Nat.le_of_ble_eq_true rfl) ?_
  refine va_putF (D := (dC, dI)) (ci := 6) (v := .ref q_3) (ty := .array .int) (C := RX6) (T := TX6) (N := 5) hx hb hts iwX6 tyX6 tyX6_ok nmX6 hown hK hP hD hS 0 rfl rfl 3 (by decide) (hts _ mw_500) (fun _ h9 => h9) rfl hin rfl (by decide +kernel) rfl rfl (Nat.le_of_ble_eq_true rfl) dX6_init_24 (fun H locs hP hD hS => ?_)
  have hP : va_P (dC, dI) CL [(a0, .inr (6, [.null, .int 0, .ref q_1, .ref q_3, .null])), (q_1, .inl (k_2, 256, .inl (fun _ => 0))), (q_3, .inl (k_4, 256, .inl (fun _ => 0)))] H := hP
  have hD : va_D A [(a0, .inr (6, [.null, .int 0, .ref q_1, .ref q_3, .null])), (q_1, .inl (k_2, 256, .inl (fun _ => 0))), (q_3, .inl (k_4, 256, .inl (fun _ => 0)))] := hD
  refine lv_aload_n hx hb dX6_init_27 rfl (lv_at hl 0 rfl) ?_
  refine lv_sipush (v := 256) hx hb dX6_init_28 (by decide) ?_
  refine va_newa (atype := .int) (n := 256) (N' := 256) (ty := .int) (a0 := (256, .inl (fun _ => 0))) hx hb (hts _ mw_155) rfl hK hP hD hS hA (fun _ => rfl) (by decide) (by decide) (by decide) (Nat.le_of_ble_eq_true rfl) (Nat.le_of_ble_eq_true rfl) dX6_init_31 (fun q_5 k_6 H hK hP hD hS => ?_)
  have hK : va_K (dC, dI) CL [(k_2, .int), (k_4, .int), (k_6, .int)] s := hK
  have hP : va_P (dC, dI) CL [(a0, .inr (6, [.null, .int 0, .ref q_1, .ref q_3, .null])), (q_1, .inl (k_2, 256, .inl (fun _ => 0))), (q_3, .inl (k_4, 256, .inl (fun _ => 0))), (q_5, .inl (k_6, 256, .inl (fun _ => 0)))] H := hP
  have hD : va_D A [(a0, .inr (6, [.null, .int 0, .ref q_1, .ref q_3, .null])), (q_1, .inl (k_2, 256, .inl (fun _ => 0))), (q_3, .inl (k_4, 256, .inl (fun _ => 0))), (q_5, .inl (k_6, 256, .inl (fun _ => 0)))] := hD
  refine W.widen (k := 3) (n := 768) (Nat.le_of_ble_eq_true rfl) (Nat.le_of_ble_eq_true rfl) ?_
  refine va_putF (D := (dC, dI)) (ci := 6) (v := .ref q_5) (ty := .array .int) (C := RX6) (T := TX6) (N := 5) hx hb hts iwX6 tyX6 tyX6_ok nmX6 hown hK hP hD hS 0 rfl rfl 4 (by decide) (hts _ mw_501) (fun _ h9 => h9) rfl hin rfl (by decide +kernel) rfl rfl (Nat.le_of_ble_eq_true rfl) dX6_init_33 (fun H locs hP hD hS => ?_)
  have hP : va_P (dC, dI) CL [(a0, .inr (6, [.null, .int 0, .ref q_1, .ref q_3, .ref q_5])), (q_1, .inl (k_2, 256, .inl (fun _ => 0))), (q_3, .inl (k_4, 256, .inl (fun _ => 0))), (q_5, .inl (k_6, 256, .inl (fun _ => 0)))] H := hP
  have hD : va_D A [(a0, .inr (6, [.null, .int 0, .ref q_1, .ref q_3, .ref q_5])), (q_1, .inl (k_2, 256, .inl (fun _ => 0))), (q_3, .inl (k_4, 256, .inl (fun _ => 0))), (q_5, .inl (k_6, 256, .inl (fun _ => 0)))] := hD
  refine lv_aload_n hx hb dX6_init_36 rfl (lv_at hl 0 rfl) ?_
  refine lv_aload_n hx hb dX6_init_37 rfl (lv_at hl 1 rfl) ?_
  refine va_putF (D := (dC, dI)) (ci := 6) (v := .ref a1) (ty := .object "HalfCourt$Hearing") (C := RX6) (T := TX6) (N := 5) hx hb hts iwX6 tyX6 tyX6_ok nmX6 hown hK hP hD hS 0 rfl rfl 0 (by decide) (hts _ mw_497) (fun _ h9 => h9) rfl hin rfl (by decide +kernel) rfl rfl (Nat.le_of_ble_eq_true rfl) dX6_init_38 (fun H locs hP hD hS => ?_)
  have hP : va_P (dC, dI) CL [(a0, .inr (6, [.ref a1, .int 0, .ref q_1, .ref q_3, .ref q_5])), (q_1, .inl (k_2, 256, .inl (fun _ => 0))), (q_3, .inl (k_4, 256, .inl (fun _ => 0))), (q_5, .inl (k_6, 256, .inl (fun _ => 0)))] H := hP
  have hD : va_D A [(a0, .inr (6, [.ref a1, .int 0, .ref q_1, .ref q_3, .ref q_5])), (q_1, .inl (k_2, 256, .inl (fun _ => 0))), (q_3, .inl (k_4, 256, .inl (fun _ => 0))), (q_5, .inl (k_6, 256, .inl (fun _ => 0)))] := hD
  refine W.widen (k := 3) (n := 768) (Nat.le_of_ble_eq_true rfl) (Nat.le_of_ble_eq_true rfl) ?_
  have hP9 := hP.sub (ws' := [(a0, .inr (6, [.ref a1, .int 0, .ref q_1, .ref q_3, .ref q_5])), (q_1, .inl (k_2, 256, .inl (fun _ => 0))), (q_3, .inl (k_4, 256, .inl (fun _ => 0))), (q_5, .inl (k_6, 256, .inl (fun _ => 0)))]) [0, 1, 2, 3] rfl
  have hD9 := hD.sub (ws' := [(a0, .inr (6, [.ref a1, .int 0, .ref q_1, .ref q_3, .ref q_5])), (q_1, .inl (k_2, 256, .inl (fun _ => 0))), (q_3, .inl (k_4, 256, .inl (fun _ => 0))), (q_5, .inl (k_6, 256, .inl (fun _ => 0)))]) [0, 1, 2, 3] (by decide) rfl
  have hK9 := hK.sub (tys' := [(k_2, .int), (k_4, .int), (k_6, .int)]) [0, 1, 2] rfl
  exact W.vret hx hb hr (fun t ht hW => ⟨⟨(), rfl, trivial, q_1, q_3, q_5, k_2, k_4, k_6, by rw [ht]; exact hP9, va_K.moved hW.alike hK9, hD9⟩, hS.F ht⟩) hS.2.2 dX6_init_41
set_option maxHeartbeats 4000000 in
set_option maxRecDepth 100000 in
theorem zX7_init (l : Launch) (dC : Nat → ClassId) (dI : Nat → Nat → Nat) (adK adV : Nat → Nat) (sz : Nat) (a0 : Nat) : Met l yX7_init (Cond.code yX7_init cX7_init 1 none :: TB) ({ frames := 1, cells := 6, slots := 240, locals := 100 }) (XP (dC, dI) adK adV [.ref a0] sz [(a0, .inr (7, [.null, .null, .null, .null, .null, .null, .int 0, .int 0, .int 0]))] []) (va_Qv (fun _ : Unit => True) (fun _ t => ∃ q_1 : Nat, ∃ q_3 : Nat, ∃ q_5 : Nat, ∃ q_7 : Nat, ∃ q_9 : Nat, ∃ q_11 : Nat, ∃ k_2 : ClassId, ∃ k_4 : ClassId, ∃ k_6 : ClassId, ∃ k_8 : ClassId, ∃ k_10 : ClassId, ∃ k_12 : ClassId, va_P (dC, dI) CL [(a0, .inr (7, [.ref q_1, .ref q_3, .ref q_5, .ref q_7, .ref q_9, .ref q_11, .int 0, .int 0, .int 0])), (q_1, .inl (k_2, 40, .inl (fun _ => 0))), (q_3, .inl (k_4, 40, .inl (fun _ => 0))), (q_5, .inl (k_6, 40, .inl (fun _ => 0))), (q_7, .inl (k_8, 40, .inl (fun _ => 0))), (q_9, .inl (k_10, 40, .inl (fun _ => 0))), (q_11, .inl (k_12, 40, .inl (fun _ => 0)))] t.heap ∧ va_K (dC, dI) CL [(k_2, .int), (k_4, .int), (k_6, .int), (k_8, .int), (k_10, .int), (k_12, .int)] t ∧ va_D (va_A [(a0, .inr (7, [.null, .null, .null, .null, .null, .null, .int 0, .int 0, .int 0]))] sz) [(a0, .inr (7, [.ref q_1, .ref q_3, .ref q_5, .ref q_7, .ref q_9, .ref q_11, .int 0, .int 0, .int 0])), (q_1, .inl (k_2, 40, .inl (fun _ => 0))), (q_3, .inl (k_4, 40, .inl (fun _ => 0))), (q_5, .inl (k_6, 40, .inl (fun _ => 0))), (q_7, .inl (k_8, 40, .inl (fun _ => 0))), (q_9, .inl (k_10, 40, .inl (fun _ => 0))), (q_11, .inl (k_12, 40, .inl (fun _ => 0)))]) (va_A [(a0, .inr (7, [.null, .null, .null, .null, .null, .null, .int 0, .int 0, .int 0]))] sz)) 6 240 (va_A [(a0, .inr (7, [.null, .null, .null, .null, .null, .null, .int 0, .int 0, .int 0]))] sz) := by
  refine Met.ofW (cc := cX7_init) (maxL := 1) (ret := none) (by decide) rfl ?_
  intro p e s m args below meth c s₁ B hml hv
  obtain ⟨rfl, hsz, hP, hK, hD0, hC⟩ := hv
  have hx := B.exec
  have hb := B.bytes
  have hr := B.returns
  have hts0 := atoms_spec (ws := Cond.code yX7_init cX7_init 1 none :: TB) B.pre
  have hts : ∀ w ∈ TB, w.before _ s = true := fun w h => hts0 w (List.mem_cons_of_mem _ h)
  have hown : s.vm.findClass RX7 = some m.cls := findClass_of_methodNamed B.named
  have hlocks := B.notSynchronized
  have hin : meth.name = "<init>" := (name_of_methodNamed B.named B.method).1
  subst hsz
  have hD := hD0.self (sz := s.heap.size)
  generalize hAe : va_A [(a0, .inr (7, [.null, .null, .null, .null, .null, .null, .int 0, .int 0, .int 0]))] s.heap.size = A at hD hC ⊢
  have hA : ∀ q : Nat, s.heap.size ≤ q → A q := fun q h => by rw [← hAe]; exact Or.inr h
  have hl := lv_entry ([.ref a0]) (n := 1) (Nat.le_of_ble_eq_true rfl)
  rw [lg_entry_eq]
  generalize (lg_sl ([.ref a0]) ++ List.replicate (1 - (lg_sl ([.ref a0])).length) Slot.unset).toArray = ls at hl ⊢
  have hl : lv_has ls 1 [(0, .ref a0)] := hl
  have hP : va_P (dC, dI) CL [(a0, .inr (7, [.null, .null, .null, .null, .null, .null, .int 0, .int 0, .int 0]))] s.heap := hP
  obtain ⟨H, hH⟩ : ∃ z, z = s.heap := ⟨_, rfl⟩
  rw [← hH] at hP ⊢
  have hS : va_S A s.heap H [] := by rw [hH]; exact va_S.rf
  refine lv_aload_n hx hb dX7_init_0 rfl (lv_at hl 0 rfl) ?_
  refine W.objInit hx hb hown (hts _ mw_518) (hts _ mw_125) (hts _ mw_126) rfl (by rw [hml]; exact hl.1) rfl dX7_init_1 (Nat.le_of_ble_eq_true rfl) (Nat.le_of_ble_eq_true rfl) ?_
  refine W.eq (g2 := F0 m 4 ls []) rfl ?_
  refine lv_aload_n hx hb dX7_init_4 rfl (lv_at hl 0 rfl) ?_
  refine lv_bipush (v := 40) hx hb dX7_init_5 (by decide) ?_
  refine va_newa (atype := .int) (n := 40) (N' := 40) (ty := .int) (a0 := (40, .inl (fun _ => 0))) hx hb (hts _ mw_155) rfl hK hP hD hS hA (fun _ => rfl) (by decide) (by decide) (by decide) (Nat.le_of_ble_eq_true rfl) (Nat.le_of_ble_eq_true rfl) dX7_init_7 (fun q_1 k_2 H hK hP hD hS => ?_)
  have hK : va_K (dC, dI) CL [(k_2, .int)] s := hK
  have hP : va_P (dC, dI) CL [(a0, .inr (7, [.null, .null, .null, .null, .null, .null, .int 0, .int 0, .int 0])), (q_1, .inl (k_2, 40, .inl (fun _ => 0)))] H := hP
  have hD : va_D A [(a0, .inr (7, [.null, .null, .null, .null, .null, .null, .int 0, .int 0, .int 0])), (q_1, .inl (k_2, 40, .inl (fun _ => 0)))] := hD
  refine W.widen (k := 1) (n := 40) (Nat.le_of_ble_eq_true rfl) (Nat.le_of_ble_eq_true rfl) ?_
  refine va_putF (D := (dC, dI)) (ci := 7) (v := .ref q_1) (ty := .array .int) (C := RX7) (T := TX7) (N := 9) hx hb hts iwX7 tyX7 tyX7_ok nmX7 hown hK hP hD hS 0 rfl rfl 0 (by decide) (hts _ mw_519) (fun _ h9 => h9) rfl hin rfl (by decide +kernel) rfl rfl (Nat.le_of_ble_eq_true rfl) dX7_init_9 (fun H locs hP hD hS => ?_)
  have hP : va_P (dC, dI) CL [(a0, .inr (7, [.ref q_1, .null, .null, .null, .null, .null, .int 0, .int 0, .int 0])), (q_1, .inl (k_2, 40, .inl (fun _ => 0)))] H := hP
  have hD : va_D A [(a0, .inr (7, [.ref q_1, .null, .null, .null, .null, .null, .int 0, .int 0, .int 0])), (q_1, .inl (k_2, 40, .inl (fun _ => 0)))] := hD
  refine lv_aload_n hx hb dX7_init_12 rfl (lv_at hl 0 rfl) ?_
  refine lv_bipush (v := 40) hx hb dX7_init_13 (by decide) ?_
  refine va_newa (atype := .int) (n := 40) (N' := 40) (ty := .int) (a0 := (40, .inl (fun _ => 0))) hx hb (hts _ mw_155) rfl hK hP hD hS hA (fun _ => rfl) (by decide) (by decide) (by decide) (Nat.le_of_ble_eq_true rfl) (Nat.le_of_ble_eq_true rfl) dX7_init_15 (fun q_3 k_4 H hK hP hD hS => ?_)
  have hK : va_K (dC, dI) CL [(k_2, .int), (k_4, .int)] s := hK
  have hP : va_P (dC, dI) CL [(a0, .inr (7, [.ref q_1, .null, .null, .null, .null, .null, .int 0, .int 0, .int 0])), (q_1, .inl (k_2, 40, .inl (fun _ => 0))), (q_3, .inl (k_4, 40, .inl (fun _ => 0)))] H := hP
  have hD : va_D A [(a0, .inr (7, [.ref q_1, .null, .null, .null, .null, .null, .int 0, .int 0, .int 0])), (q_1, .inl (k_2, 40, .inl (fun _ => 0))), (q_3, .inl (k_4, 40, .inl (fun _ => 0)))] := hD
  refine W.widen (k := 2) (n := 80) (Nat.le_of_ble_eq_true rfl) (Nat.le_of_ble_eq_true rfl) ?_
  refine va_putF (D := (dC, dI)) (ci := 7) (v := .ref q_3) (ty := .array .int) (C := RX7) (T := TX7) (N := 9) hx hb hts iwX7 tyX7 tyX7_ok nmX7 hown hK hP hD hS 0 rfl rfl 1 (by decide) (hts _ mw_521) (fun _ h9 => h9) rfl hin rfl (by decide +kernel) rfl rfl (Nat.le_of_ble_eq_true rfl) dX7_init_17 (fun H locs hP hD hS => ?_)
  have hP : va_P (dC, dI) CL [(a0, .inr (7, [.ref q_1, .ref q_3, .null, .null, .null, .null, .int 0, .int 0, .int 0])), (q_1, .inl (k_2, 40, .inl (fun _ => 0))), (q_3, .inl (k_4, 40, .inl (fun _ => 0)))] H := hP
  have hD : va_D A [(a0, .inr (7, [.ref q_1, .ref q_3, .null, .null, .null, .null, .int 0, .int 0, .int 0])), (q_1, .inl (k_2, 40, .inl (fun _ => 0))), (q_3, .inl (k_4, 40, .inl (fun _ => 0)))] := hD
  refine lv_aload_n hx hb dX7_init_20 rfl (lv_at hl 0 rfl) ?_
  refine lv_bipush (v := 40) hx hb dX7_init_21 (by decide) ?_
  refine va_newa (atype := .int) (n := 40) (N' := 40) (ty := .int) (a0 := (40, .inl (fun _ => 0))) hx hb (hts _ mw_155) rfl hK hP hD hS hA (fun _ => rfl) (by decide) (by decide) (by decide) (Nat.le_of_ble_eq_true rfl) (Nat.le_of_ble_eq_true rfl) dX7_init_23 (fun q_5 k_6 H hK hP hD hS => ?_)
  have hK : va_K (dC, dI) CL [(k_2, .int), (k_4, .int), (k_6, .int)] s := hK
  have hP : va_P (dC, dI) CL [(a0, .inr (7, [.ref q_1, .ref q_3, .null, .null, .null, .null, .int 0, .int 0, .int 0])), (q_1, .inl (k_2, 40, .inl (fun _ => 0))), (q_3, .inl (k_4, 40, .inl (fun _ => 0))), (q_5, .inl (k_6, 40, .inl (fun _ => 0)))] H := hP
  have hD : va_D A [(a0, .inr (7, [.ref q_1, .ref q_3, .null, .null, .null, .null, .int 0, .int 0, .int 0])), (q_1, .inl (k_2, 40, .inl (fun _ => 0))), (q_3, .inl (k_4, 40, .inl (fun _ => 0))), (q_5, .inl (k_6, 40, .inl (fun _ => 0)))] := hD
  refine W.widen (k := 3) (n := 120) (Nat.le_of_ble_eq_true rfl) (Nat.le_of_ble_eq_true rfl) ?_
  refine va_putF (D := (dC, dI)) (ci := 7) (v := .ref q_5) (ty := .array .int) (C := RX7) (T := TX7) (N := 9) hx hb hts iwX7 tyX7 tyX7_ok nmX7 hown hK hP hD hS 0 rfl rfl 2 (by decide) (hts _ mw_523) (fun _ h9 => h9) rfl hin rfl (by decide +kernel) rfl rfl (Nat.le_of_ble_eq_true rfl) dX7_init_25 (fun H locs hP hD hS => ?_)
  have hP : va_P (dC, dI) CL [(a0, .inr (7, [.ref q_1, .ref q_3, .ref q_5, .null, .null, .null, .int 0, .int 0, .int 0])), (q_1, .inl (k_2, 40, .inl (fun _ => 0))), (q_3, .inl (k_4, 40, .inl (fun _ => 0))), (q_5, .inl (k_6, 40, .inl (fun _ => 0)))] H := hP
  have hD : va_D A [(a0, .inr (7, [.ref q_1, .ref q_3, .ref q_5, .null, .null, .null, .int 0, .int 0, .int 0])), (q_1, .inl (k_2, 40, .inl (fun _ => 0))), (q_3, .inl (k_4, 40, .inl (fun _ => 0))), (q_5, .inl (k_6, 40, .inl (fun _ => 0)))] := hD
  refine lv_aload_n hx hb dX7_init_28 rfl (lv_at hl 0 rfl) ?_
  refine lv_bipush (v := 40) hx hb dX7_init_29 (by decide) ?_
  refine va_newa (atype := .int) (n := 40) (N' := 40) (ty := .int) (a0 := (40, .inl (fun _ => 0))) hx hb (hts _ mw_155) rfl hK hP hD hS hA (fun _ => rfl) (by decide) (by decide) (by decide) (Nat.le_of_ble_eq_true rfl) (Nat.le_of_ble_eq_true rfl) dX7_init_31 (fun q_7 k_8 H hK hP hD hS => ?_)
  have hK : va_K (dC, dI) CL [(k_2, .int), (k_4, .int), (k_6, .int), (k_8, .int)] s := hK
  have hP : va_P (dC, dI) CL [(a0, .inr (7, [.ref q_1, .ref q_3, .ref q_5, .null, .null, .null, .int 0, .int 0, .int 0])), (q_1, .inl (k_2, 40, .inl (fun _ => 0))), (q_3, .inl (k_4, 40, .inl (fun _ => 0))), (q_5, .inl (k_6, 40, .inl (fun _ => 0))), (q_7, .inl (k_8, 40, .inl (fun _ => 0)))] H := hP
  have hD : va_D A [(a0, .inr (7, [.ref q_1, .ref q_3, .ref q_5, .null, .null, .null, .int 0, .int 0, .int 0])), (q_1, .inl (k_2, 40, .inl (fun _ => 0))), (q_3, .inl (k_4, 40, .inl (fun _ => 0))), (q_5, .inl (k_6, 40, .inl (fun _ => 0))), (q_7, .inl (k_8, 40, .inl (fun _ => 0)))] := hD
  refine W.widen (k := 4) (n := 160) (Nat.le_of_ble_eq_true rfl) (Nat.le_of_ble_eq_true rfl) ?_
  refine va_putF (D := (dC, dI)) (ci := 7) (v := .ref q_7) (ty := .array .int) (C := RX7) (T := TX7) (N := 9) hx hb hts iwX7 tyX7 tyX7_ok nmX7 hown hK hP hD hS 0 rfl rfl 3 (by decide) (hts _ mw_525) (fun _ h9 => h9) rfl hin rfl (by decide +kernel) rfl rfl (Nat.le_of_ble_eq_true rfl) dX7_init_33 (fun H locs hP hD hS => ?_)
  have hP : va_P (dC, dI) CL [(a0, .inr (7, [.ref q_1, .ref q_3, .ref q_5, .ref q_7, .null, .null, .int 0, .int 0, .int 0])), (q_1, .inl (k_2, 40, .inl (fun _ => 0))), (q_3, .inl (k_4, 40, .inl (fun _ => 0))), (q_5, .inl (k_6, 40, .inl (fun _ => 0))), (q_7, .inl (k_8, 40, .inl (fun _ => 0)))] H := hP
  have hD : va_D A [(a0, .inr (7, [.ref q_1, .ref q_3, .ref q_5, .ref q_7, .null, .null, .int 0, .int 0, .int 0])), (q_1, .inl (k_2, 40, .inl (fun _ => 0))), (q_3, .inl (k_4, 40, .inl (fun _ => 0))), (q_5, .inl (k_6, 40, .inl (fun _ => 0))), (q_7, .inl (k_8, 40, .inl (fun _ => 0)))] := hD
  refine lv_aload_n hx hb dX7_init_36 rfl (lv_at hl 0 rfl) ?_
  refine lv_bipush (v := 40) hx hb dX7_init_37 (by decide) ?_
  refine va_newa (atype := .int) (n := 40) (N' := 40) (ty := .int) (a0 := (40, .inl (fun _ => 0))) hx hb (hts _ mw_155) rfl hK hP hD hS hA (fun _ => rfl) (by decide) (by decide) (by decide) (Nat.le_of_ble_eq_true rfl) (Nat.le_of_ble_eq_true rfl) dX7_init_39 (fun q_9 k_10 H hK hP hD hS => ?_)
  have hK : va_K (dC, dI) CL [(k_2, .int), (k_4, .int), (k_6, .int), (k_8, .int), (k_10, .int)] s := hK
  have hP : va_P (dC, dI) CL [(a0, .inr (7, [.ref q_1, .ref q_3, .ref q_5, .ref q_7, .null, .null, .int 0, .int 0, .int 0])), (q_1, .inl (k_2, 40, .inl (fun _ => 0))), (q_3, .inl (k_4, 40, .inl (fun _ => 0))), (q_5, .inl (k_6, 40, .inl (fun _ => 0))), (q_7, .inl (k_8, 40, .inl (fun _ => 0))), (q_9, .inl (k_10, 40, .inl (fun _ => 0)))] H := hP
  have hD : va_D A [(a0, .inr (7, [.ref q_1, .ref q_3, .ref q_5, .ref q_7, .null, .null, .int 0, .int 0, .int 0])), (q_1, .inl (k_2, 40, .inl (fun _ => 0))), (q_3, .inl (k_4, 40, .inl (fun _ => 0))), (q_5, .inl (k_6, 40, .inl (fun _ => 0))), (q_7, .inl (k_8, 40, .inl (fun _ => 0))), (q_9, .inl (k_10, 40, .inl (fun _ => 0)))] := hD
  refine W.widen (k := 5) (n := 200) (Nat.le_of_ble_eq_true rfl) (Nat.le_of_ble_eq_true rfl) ?_
  refine va_putF (D := (dC, dI)) (ci := 7) (v := .ref q_9) (ty := .array .int) (C := RX7) (T := TX7) (N := 9) hx hb hts iwX7 tyX7 tyX7_ok nmX7 hown hK hP hD hS 0 rfl rfl 4 (by decide) (hts _ mw_527) (fun _ h9 => h9) rfl hin rfl (by decide +kernel) rfl rfl (Nat.le_of_ble_eq_true rfl) dX7_init_41 (fun H locs hP hD hS => ?_)
  have hP : va_P (dC, dI) CL [(a0, .inr (7, [.ref q_1, .ref q_3, .ref q_5, .ref q_7, .ref q_9, .null, .int 0, .int 0, .int 0])), (q_1, .inl (k_2, 40, .inl (fun _ => 0))), (q_3, .inl (k_4, 40, .inl (fun _ => 0))), (q_5, .inl (k_6, 40, .inl (fun _ => 0))), (q_7, .inl (k_8, 40, .inl (fun _ => 0))), (q_9, .inl (k_10, 40, .inl (fun _ => 0)))] H := hP
  have hD : va_D A [(a0, .inr (7, [.ref q_1, .ref q_3, .ref q_5, .ref q_7, .ref q_9, .null, .int 0, .int 0, .int 0])), (q_1, .inl (k_2, 40, .inl (fun _ => 0))), (q_3, .inl (k_4, 40, .inl (fun _ => 0))), (q_5, .inl (k_6, 40, .inl (fun _ => 0))), (q_7, .inl (k_8, 40, .inl (fun _ => 0))), (q_9, .inl (k_10, 40, .inl (fun _ => 0)))] := hD
  refine lv_aload_n hx hb dX7_init_44 rfl (lv_at hl 0 rfl) ?_
  refine lv_bipush (v := 40) hx hb dX7_init_45 (by decide) ?_
  refine va_newa (atype := .int) (n := 40) (N' := 40) (ty := .int) (a0 := (40, .inl (fun _ => 0))) hx hb (hts _ mw_155) rfl hK hP hD hS hA (fun _ => rfl) (by decide) (by decide) (by decide) (Nat.le_of_ble_eq_true rfl) (Nat.le_of_ble_eq_true rfl) dX7_init_47 (fun q_11 k_12 H hK hP hD hS => ?_)
  have hK : va_K (dC, dI) CL [(k_2, .int), (k_4, .int), (k_6, .int), (k_8, .int), (k_10, .int), (k_12, .int)] s := hK
  have hP : va_P (dC, dI) CL [(a0, .inr (7, [.ref q_1, .ref q_3, .ref q_5, .ref q_7, .ref q_9, .null, .int 0, .int 0, .int 0])), (q_1, .inl (k_2, 40, .inl (fun _ => 0))), (q_3, .inl (k_4, 40, .inl (fun _ => 0))), (q_5, .inl (k_6, 40, .inl (fun _ => 0))), (q_7, .inl (k_8, 40, .inl (fun _ => 0))), (q_9, .inl (k_10, 40, .inl (fun _ => 0))), (q_11, .inl (k_12, 40, .inl (fun _ => 0)))] H := hP
  have hD : va_D A [(a0, .inr (7, [.ref q_1, .ref q_3, .ref q_5, .ref q_7, .ref q_9, .null, .int 0, .int 0, .int 0])), (q_1, .inl (k_2, 40, .inl (fun _ => 0))), (q_3, .inl (k_4, 40, .inl (fun _ => 0))), (q_5, .inl (k_6, 40, .inl (fun _ => 0))), (q_7, .inl (k_8, 40, .inl (fun _ => 0))), (q_9, .inl (k_10, 40, .inl (fun _ => 0))), (q_11, .inl (k_12, 40, .inl (fun _ => 0)))] := hD
  refine W.widen (k := 6) (n := 240) (Nat.le_of_ble_eq_true rfl) (Nat.le_of_ble_eq_true rfl) ?_
  refine va_putF (D := (dC, dI)) (ci := 7) (v := .ref q_11) (ty := .array .int) (C := RX7) (T := TX7) (N := 9) hx hb hts iwX7 tyX7 tyX7_ok nmX7 hown hK hP hD hS 0 rfl rfl 5 (by decide) (hts _ mw_528) (fun _ h9 => h9) rfl hin rfl (by decide +kernel) rfl rfl (Nat.le_of_ble_eq_true rfl) dX7_init_49 (fun H locs hP hD hS => ?_)
  have hP : va_P (dC, dI) CL [(a0, .inr (7, [.ref q_1, .ref q_3, .ref q_5, .ref q_7, .ref q_9, .ref q_11, .int 0, .int 0, .int 0])), (q_1, .inl (k_2, 40, .inl (fun _ => 0))), (q_3, .inl (k_4, 40, .inl (fun _ => 0))), (q_5, .inl (k_6, 40, .inl (fun _ => 0))), (q_7, .inl (k_8, 40, .inl (fun _ => 0))), (q_9, .inl (k_10, 40, .inl (fun _ => 0))), (q_11, .inl (k_12, 40, .inl (fun _ => 0)))] H := hP
  have hD : va_D A [(a0, .inr (7, [.ref q_1, .ref q_3, .ref q_5, .ref q_7, .ref q_9, .ref q_11, .int 0, .int 0, .int 0])), (q_1, .inl (k_2, 40, .inl (fun _ => 0))), (q_3, .inl (k_4, 40, .inl (fun _ => 0))), (q_5, .inl (k_6, 40, .inl (fun _ => 0))), (q_7, .inl (k_8, 40, .inl (fun _ => 0))), (q_9, .inl (k_10, 40, .inl (fun _ => 0))), (q_11, .inl (k_12, 40, .inl (fun _ => 0)))] := hD
  refine lv_aload_n hx hb dX7_init_52 rfl (lv_at hl 0 rfl) ?_
  refine lv_iconst (v := 0) hx hb dX7_init_53 (by decide) ?_
  refine va_put (D := (dC, dI)) (ci := 7) (v := .int 0) (ty := .int) (C := RX7) (T := TX7) (N := 9) hx hb hts iwX7 tyX7 tyX7_ok nmX7 hown hK hP hD hS 0 rfl rfl 6 (by decide) (hts _ mw_530) (fun _ h9 => h9) rfl (by decide +kernel) rfl rfl (Nat.le_of_ble_eq_true rfl) dX7_init_54 (fun H locs hP hD hS => ?_)
  have hP : va_P (dC, dI) CL [(a0, .inr (7, [.ref q_1, .ref q_3, .ref q_5, .ref q_7, .ref q_9, .ref q_11, .int 0, .int 0, .int 0])), (q_1, .inl (k_2, 40, .inl (fun _ => 0))), (q_3, .inl (k_4, 40, .inl (fun _ => 0))), (q_5, .inl (k_6, 40, .inl (fun _ => 0))), (q_7, .inl (k_8, 40, .inl (fun _ => 0))), (q_9, .inl (k_10, 40, .inl (fun _ => 0))), (q_11, .inl (k_12, 40, .inl (fun _ => 0)))] H := hP
  have hD : va_D A [(a0, .inr (7, [.ref q_1, .ref q_3, .ref q_5, .ref q_7, .ref q_9, .ref q_11, .int 0, .int 0, .int 0])), (q_1, .inl (k_2, 40, .inl (fun _ => 0))), (q_3, .inl (k_4, 40, .inl (fun _ => 0))), (q_5, .inl (k_6, 40, .inl (fun _ => 0))), (q_7, .inl (k_8, 40, .inl (fun _ => 0))), (q_9, .inl (k_10, 40, .inl (fun _ => 0))), (q_11, .inl (k_12, 40, .inl (fun _ => 0)))] := hD
  refine lv_aload_n hx hb dX7_init_57 rfl (lv_at hl 0 rfl) ?_
  refine lv_iconst (v := 0) hx hb dX7_init_58 (by decide) ?_
  refine va_put (D := (dC, dI)) (ci := 7) (v := .int 0) (ty := .int) (C := RX7) (T := TX7) (N := 9) hx hb hts iwX7 tyX7 tyX7_ok nmX7 hown hK hP hD hS 0 rfl rfl 7 (by decide) (hts _ mw_532) (fun _ h9 => h9) rfl (by decide +kernel) rfl rfl (Nat.le_of_ble_eq_true rfl) dX7_init_59 (fun H locs hP hD hS => ?_)
  have hP : va_P (dC, dI) CL [(a0, .inr (7, [.ref q_1, .ref q_3, .ref q_5, .ref q_7, .ref q_9, .ref q_11, .int 0, .int 0, .int 0])), (q_1, .inl (k_2, 40, .inl (fun _ => 0))), (q_3, .inl (k_4, 40, .inl (fun _ => 0))), (q_5, .inl (k_6, 40, .inl (fun _ => 0))), (q_7, .inl (k_8, 40, .inl (fun _ => 0))), (q_9, .inl (k_10, 40, .inl (fun _ => 0))), (q_11, .inl (k_12, 40, .inl (fun _ => 0)))] H := hP
  have hD : va_D A [(a0, .inr (7, [.ref q_1, .ref q_3, .ref q_5, .ref q_7, .ref q_9, .ref q_11, .int 0, .int 0, .int 0])), (q_1, .inl (k_2, 40, .inl (fun _ => 0))), (q_3, .inl (k_4, 40, .inl (fun _ => 0))), (q_5, .inl (k_6, 40, .inl (fun _ => 0))), (q_7, .inl (k_8, 40, .inl (fun _ => 0))), (q_9, .inl (k_10, 40, .inl (fun _ => 0))), (q_11, .inl (k_12, 40, .inl (fun _ => 0)))] := hD
  refine lv_aload_n hx hb dX7_init_62 rfl (lv_at hl 0 rfl) ?_
  refine lv_iconst (v := 0) hx hb dX7_init_63 (by decide) ?_
  refine va_put (D := (dC, dI)) (ci := 7) (v := .int 0) (ty := .boolean) (C := RX7) (T := TX7) (N := 9) hx hb hts iwX7 tyX7 tyX7_ok nmX7 hown hK hP hD hS 0 rfl rfl 8 (by decide) (hts _ mw_534) (fun _ h9 => h9) rfl (by decide +kernel) rfl rfl (Nat.le_of_ble_eq_true rfl) dX7_init_64 (fun H locs hP hD hS => ?_)
  have hP : va_P (dC, dI) CL [(a0, .inr (7, [.ref q_1, .ref q_3, .ref q_5, .ref q_7, .ref q_9, .ref q_11, .int 0, .int 0, .int 0])), (q_1, .inl (k_2, 40, .inl (fun _ => 0))), (q_3, .inl (k_4, 40, .inl (fun _ => 0))), (q_5, .inl (k_6, 40, .inl (fun _ => 0))), (q_7, .inl (k_8, 40, .inl (fun _ => 0))), (q_9, .inl (k_10, 40, .inl (fun _ => 0))), (q_11, .inl (k_12, 40, .inl (fun _ => 0)))] H := hP
  have hD : va_D A [(a0, .inr (7, [.ref q_1, .ref q_3, .ref q_5, .ref q_7, .ref q_9, .ref q_11, .int 0, .int 0, .int 0])), (q_1, .inl (k_2, 40, .inl (fun _ => 0))), (q_3, .inl (k_4, 40, .inl (fun _ => 0))), (q_5, .inl (k_6, 40, .inl (fun _ => 0))), (q_7, .inl (k_8, 40, .inl (fun _ => 0))), (q_9, .inl (k_10, 40, .inl (fun _ => 0))), (q_11, .inl (k_12, 40, .inl (fun _ => 0)))] := hD
  refine W.widen (k := 6) (n := 240) (Nat.le_of_ble_eq_true rfl) (Nat.le_of_ble_eq_true rfl) ?_
  have hP9 := hP.sub (ws' := [(a0, .inr (7, [.ref q_1, .ref q_3, .ref q_5, .ref q_7, .ref q_9, .ref q_11, .int 0, .int 0, .int 0])), (q_1, .inl (k_2, 40, .inl (fun _ => 0))), (q_3, .inl (k_4, 40, .inl (fun _ => 0))), (q_5, .inl (k_6, 40, .inl (fun _ => 0))), (q_7, .inl (k_8, 40, .inl (fun _ => 0))), (q_9, .inl (k_10, 40, .inl (fun _ => 0))), (q_11, .inl (k_12, 40, .inl (fun _ => 0)))]) [0, 1, 2, 3, 4, 5, 6] rfl
  have hD9 := hD.sub (ws' := [(a0, .inr (7, [.ref q_1, .ref q_3, .ref q_5, .ref q_7, .ref q_9, .ref q_11, .int 0, .int 0, .int 0])), (q_1, .inl (k_2, 40, .inl (fun _ => 0))), (q_3, .inl (k_4, 40, .inl (fun _ => 0))), (q_5, .inl (k_6, 40, .inl (fun _ => 0))), (q_7, .inl (k_8, 40, .inl (fun _ => 0))), (q_9, .inl (k_10, 40, .inl (fun _ => 0))), (q_11, .inl (k_12, 40, .inl (fun _ => 0)))]) [0, 1, 2, 3, 4, 5, 6] (by decide) rfl
  have hK9 := hK.sub (tys' := [(k_2, .int), (k_4, .int), (k_6, .int), (k_8, .int), (k_10, .int), (k_12, .int)]) [0, 1, 2, 3, 4, 5] rfl
  exact W.vret hx hb hr (fun t ht hW => ⟨⟨(), rfl, trivial, q_1, q_3, q_5, q_7, q_9, q_11, k_2, k_4, k_6, k_8, k_10, k_12, by rw [ht]; exact hP9, va_K.moved hW.alike hK9, hD9⟩, hS.F ht⟩) hS.2.2 dX7_init_67
