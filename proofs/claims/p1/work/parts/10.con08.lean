set_option maxHeartbeats 4000000 in
set_option maxRecDepth 100000 in
theorem zX9_putBytes (l : Launch) (dC : Nat → ClassId) (dI : Nat → Nat → Nat) (adK adV : Nat → Nat) (sz : Nat) (a0 : Nat) (p0 : Int32) (a1 : Nat) (a2 : Nat) (a3 : Nat) (a4 : Nat) (a5 : Nat) (a6 : Nat) (a7 : Nat) (a8 : Nat) (k0 : ClassId) (f0 : Nat → Int32) : Met l yX9_putBytes (Cond.code yX9_putBytes cX9_putBytes 3 none :: TB) ({ frames := 1, cells := 0, slots := 0, locals := 100 }) (XP (dC, dI) adK adV [.ref a0, .int p0] sz [(a0, .inr (9, [.ref a1, .int 0, .ref a2, .ref a3, .ref a4, .ref a5, .ref a6, .ref a7, .ref a8])), (a1, .inl (k0, 1700, .inl f0))] [(k0, .byte)]) (va_Qv (fun _ : Unit => True) (fun _ t => ∃ f_12 : Nat → Int32, va_P (dC, dI) CL [(a0, .inr (9, [.ref a1, .int 4, .ref a2, .ref a3, .ref a4, .ref a5, .ref a6, .ref a7, .ref a8])), (a1, .inl (k0, 1700, .inl f_12))] t.heap ∧ va_K (dC, dI) CL [(k0, .byte)] t ∧ va_D (va_A [(a0, .inr (9, [.ref a1, .int 0, .ref a2, .ref a3, .ref a4, .ref a5, .ref a6, .ref a7, .ref a8])), (a1, .inl (k0, 1700, .inl f0))] sz) [(a0, .inr (9, [.ref a1, .int 4, .ref a2, .ref a3, .ref a4, .ref a5, .ref a6, .ref a7, .ref a8])), (a1, .inl (k0, 1700, .inl f_12))]) (va_A [(a0, .inr (9, [.ref a1, .int 0, .ref a2, .ref a3, .ref a4, .ref a5, .ref a6, .ref a7, .ref a8])), (a1, .inl (k0, 1700, .inl f0))] sz)) 0 0 (va_A [(a0, .inr (9, [.ref a1, .int 0, .ref a2, .ref a3, .ref a4, .ref a5, .ref a6, .ref a7, .ref a8])), (a1, .inl (k0, 1700, .inl f0))] sz) := by
  refine Met.ofW (cc := cX9_putBytes) (maxL := 3) (ret := none) (by decide) rfl ?_
  intro p e s m args below meth c s₁ B hml hv
  obtain ⟨rfl, hsz, hP, hK, hD0, hC⟩ := hv
  have hx := B.exec
  have hb := B.bytes
  have hr := B.returns
  have hts0 := atoms_spec (ws := Cond.code yX9_putBytes cX9_putBytes 3 none :: TB) B.pre
  have hts : ∀ w ∈ TB, w.before _ s = true := fun w h => hts0 w (List.mem_cons_of_mem _ h)
  have hown : s.vm.findClass RX9 = some m.cls := findClass_of_methodNamed B.named
  have hlocks := B.notSynchronized
  subst hsz
  have hD := hD0.self (sz := s.heap.size)
  generalize hAe : va_A [(a0, .inr (9, [.ref a1, .int 0, .ref a2, .ref a3, .ref a4, .ref a5, .ref a6, .ref a7, .ref a8])), (a1, .inl (k0, 1700, .inl f0))] s.heap.size = A at hD hC ⊢
  have hA : ∀ q : Nat, s.heap.size ≤ q → A q := fun q h => by rw [← hAe]; exact Or.inr h
  have hl := lv_entry ([.ref a0, .int p0]) (n := 3) (Nat.le_of_ble_eq_true rfl)
  rw [lg_entry_eq]
  generalize (lg_sl ([.ref a0, .int p0]) ++ List.replicate (3 - (lg_sl ([.ref a0, .int p0])).length) Slot.unset).toArray = ls at hl ⊢
  have hl : lv_has ls 3 [(0, .ref a0), (1, .int p0)] := hl
  have hP : va_P (dC, dI) CL [(a0, .inr (9, [.ref a1, .int 0, .ref a2, .ref a3, .ref a4, .ref a5, .ref a6, .ref a7, .ref a8])), (a1, .inl (k0, 1700, .inl f0))] s.heap := hP
  obtain ⟨H, hH⟩ : ∃ z, z = s.heap := ⟨_, rfl⟩
  rw [← hH] at hP ⊢
  have hS : va_S A s.heap H [] := by rw [hH]; exact va_S.rf
  refine lv_bipush (v := 24) hx hb dX9_putBytes_0 (by decide) ?_
  refine lv_istore_n (lv' := [(2, .int 24), (0, .ref a0), (1, .int p0)]) hx hb dX9_putBytes_2 rfl hl (by decide) rfl (fun ls hl => ?_)
  refine lv_iload_n hx hb dX9_putBytes_3 rfl (lv_at hl 0 rfl) ?_
  refine lv_if_lt (tgt := 46) hx hb dX9_putBytes_4 (by decide) (fun h => absurd h (by decide)) (fun _ => ?_)
  refine lv_aload_n hx hb dX9_putBytes_7 rfl (lv_at hl 1 rfl) ?_
  refine va_get (D := (dC, dI)) (ci := 9) (v := .int 0) (C := RX9) (T := TX9) (N := 9) hx hb hts iwX9 hown hK hP 0 rfl rfl 1 (by decide) (hts _ mw_557) (fun _ h9 => h9) rfl dX9_putBytes_8 ?_
  refine lv_sipush (v := 1700) hx hb dX9_putBytes_11 (by decide) ?_
  refine lv_icmp_ge (tgt := 46) hx hb dX9_putBytes_14 (by decide) (fun h => absurd h (by decide)) (fun _ => ?_)
  refine lv_aload_n hx hb dX9_putBytes_17 rfl (lv_at hl 1 rfl) ?_
  refine va_get (D := (dC, dI)) (ci := 9) (v := .ref a1) (C := RX9) (T := TX9) (N := 9) hx hb hts iwX9 hown hK hP 0 rfl rfl 0 (by decide) (hts _ mw_556) (fun _ h9 => h9) rfl dX9_putBytes_18 ?_
  refine lv_aload_n hx hb dX9_putBytes_21 rfl (lv_at hl 1 rfl) ?_
  refine va_get (D := (dC, dI)) (ci := 9) (v := .int 0) (C := RX9) (T := TX9) (N := 9) hx hb hts iwX9 hown hK hP 0 rfl rfl 1 (by decide) (hts _ mw_557) (fun _ h9 => h9) rfl dX9_putBytes_22 ?_
  refine lv_iload_n hx hb dX9_putBytes_25 rfl (lv_at hl 2 rfl) ?_
  refine lv_iload_n hx hb dX9_putBytes_26 rfl (lv_at hl 0 rfl) ?_
  refine lv_ishr hx hb dX9_putBytes_27 ?_
  refine lv_topi (fun v_1 ev_1 => ?_)
  refine lv_i2b hx hb dX9_putBytes_28 rfl ?_
  refine lv_topi (fun v_2 ev_2 => ?_)
  refine xh_bast hx hb hK hP hD hS 1 0 rfl rfl (x_vp (k := 0) (by decide) (by decide) (by decide)) dX9_putBytes_29 (fun f_3 H locs hP hD hS => ?_)
  have hP : va_P (dC, dI) CL [(a0, .inr (9, [.ref a1, .int 0, .ref a2, .ref a3, .ref a4, .ref a5, .ref a6, .ref a7, .ref a8])), (a1, .inl (k0, 1700, .inl f_3))] H := hP
  have hD : va_D A [(a0, .inr (9, [.ref a1, .int 0, .ref a2, .ref a3, .ref a4, .ref a5, .ref a6, .ref a7, .ref a8])), (a1, .inl (k0, 1700, .inl f_3))] := hD
  refine lv_aload_n hx hb dX9_putBytes_30 rfl (lv_at hl 1 rfl) ?_
  refine lv_dup hx hb dX9_putBytes_31 rfl ?_
  refine va_get (D := (dC, dI)) (ci := 9) (v := .int 0) (C := RX9) (T := TX9) (N := 9) hx hb hts iwX9 hown hK hP 0 rfl rfl 1 (by decide) (hts _ mw_557) (fun _ h9 => h9) rfl dX9_putBytes_32 ?_
  refine lv_iconst (v := 1) hx hb dX9_putBytes_35 (by decide) ?_
  refine lv_iadd hx hb dX9_putBytes_36 ?_
  refine x_lit 1 (by decide) ?_
  refine va_put (D := (dC, dI)) (ci := 9) (v := .int 1) (ty := .int) (C := RX9) (T := TX9) (N := 9) hx hb hts iwX9 tyX9 tyX9_ok nmX9 hown hK hP hD hS 0 rfl rfl 1 (by decide) (hts _ mw_557) (fun _ h9 => h9) rfl (by decide +kernel) rfl rfl (Nat.le_of_ble_eq_true rfl) dX9_putBytes_37 (fun H locs hP hD hS => ?_)
  have hP : va_P (dC, dI) CL [(a0, .inr (9, [.ref a1, .int 1, .ref a2, .ref a3, .ref a4, .ref a5, .ref a6, .ref a7, .ref a8])), (a1, .inl (k0, 1700, .inl f_3))] H := hP
  have hD : va_D A [(a0, .inr (9, [.ref a1, .int 1, .ref a2, .ref a3, .ref a4, .ref a5, .ref a6, .ref a7, .ref a8])), (a1, .inl (k0, 1700, .inl f_3))] := hD
  refine lv_iinc (v := 16) (lv' := [(2, .int 16), (0, .ref a0), (1, .int p0)]) hx hb dX9_putBytes_40 hl (k := 0) rfl (by decide) (by decide) rfl (fun ls hl => ?_)
  refine lv_goto (tgt := 3) hx hb dX9_putBytes_43 (by decide) ?_
  refine lv_iload_n hx hb dX9_putBytes_3 rfl (lv_at hl 0 rfl) ?_
  refine lv_if_lt (tgt := 46) hx hb dX9_putBytes_4 (by decide) (fun h => absurd h (by decide)) (fun _ => ?_)
  refine lv_aload_n hx hb dX9_putBytes_7 rfl (lv_at hl 1 rfl) ?_
  refine va_get (D := (dC, dI)) (ci := 9) (v := .int 1) (C := RX9) (T := TX9) (N := 9) hx hb hts iwX9 hown hK hP 0 rfl rfl 1 (by decide) (hts _ mw_557) (fun _ h9 => h9) rfl dX9_putBytes_8 ?_
  refine lv_sipush (v := 1700) hx hb dX9_putBytes_11 (by decide) ?_
  refine lv_icmp_ge (tgt := 46) hx hb dX9_putBytes_14 (by decide) (fun h => absurd h (by decide)) (fun _ => ?_)
  refine lv_aload_n hx hb dX9_putBytes_17 rfl (lv_at hl 1 rfl) ?_
  refine va_get (D := (dC, dI)) (ci := 9) (v := .ref a1) (C := RX9) (T := TX9) (N := 9) hx hb hts iwX9 hown hK hP 0 rfl rfl 0 (by decide) (hts _ mw_556) (fun _ h9 => h9) rfl dX9_putBytes_18 ?_
  refine lv_aload_n hx hb dX9_putBytes_21 rfl (lv_at hl 1 rfl) ?_
  refine va_get (D := (dC, dI)) (ci := 9) (v := .int 1) (C := RX9) (T := TX9) (N := 9) hx hb hts iwX9 hown hK hP 0 rfl rfl 1 (by decide) (hts _ mw_557) (fun _ h9 => h9) rfl dX9_putBytes_22 ?_
  refine lv_iload_n hx hb dX9_putBytes_25 rfl (lv_at hl 2 rfl) ?_
  refine lv_iload_n hx hb dX9_putBytes_26 rfl (lv_at hl 0 rfl) ?_
  refine lv_ishr hx hb dX9_putBytes_27 ?_
  refine lv_topi (fun v_4 ev_4 => ?_)
  refine lv_i2b hx hb dX9_putBytes_28 rfl ?_
  refine lv_topi (fun v_5 ev_5 => ?_)
  refine xh_bast hx hb hK hP hD hS 1 0 rfl rfl (x_vp (k := 1) (by decide) (by decide) (by decide)) dX9_putBytes_29 (fun f_6 H locs hP hD hS => ?_)
  have hP : va_P (dC, dI) CL [(a0, .inr (9, [.ref a1, .int 1, .ref a2, .ref a3, .ref a4, .ref a5, .ref a6, .ref a7, .ref a8])), (a1, .inl (k0, 1700, .inl f_6))] H := hP
  have hD : va_D A [(a0, .inr (9, [.ref a1, .int 1, .ref a2, .ref a3, .ref a4, .ref a5, .ref a6, .ref a7, .ref a8])), (a1, .inl (k0, 1700, .inl f_6))] := hD
  refine lv_aload_n hx hb dX9_putBytes_30 rfl (lv_at hl 1 rfl) ?_
  refine lv_dup hx hb dX9_putBytes_31 rfl ?_
  refine va_get (D := (dC, dI)) (ci := 9) (v := .int 1) (C := RX9) (T := TX9) (N := 9) hx hb hts iwX9 hown hK hP 0 rfl rfl 1 (by decide) (hts _ mw_557) (fun _ h9 => h9) rfl dX9_putBytes_32 ?_
  refine lv_iconst (v := 1) hx hb dX9_putBytes_35 (by decide) ?_
  refine lv_iadd hx hb dX9_putBytes_36 ?_
  refine x_lit 2 (by decide) ?_
  refine va_put (D := (dC, dI)) (ci := 9) (v := .int 2) (ty := .int) (C := RX9) (T := TX9) (N := 9) hx hb hts iwX9 tyX9 tyX9_ok nmX9 hown hK hP hD hS 0 rfl rfl 1 (by decide) (hts _ mw_557) (fun _ h9 => h9) rfl (by decide +kernel) rfl rfl (Nat.le_of_ble_eq_true rfl) dX9_putBytes_37 (fun H locs hP hD hS => ?_)
  have hP : va_P (dC, dI) CL [(a0, .inr (9, [.ref a1, .int 2, .ref a2, .ref a3, .ref a4, .ref a5, .ref a6, .ref a7, .ref a8])), (a1, .inl (k0, 1700, .inl f_6))] H := hP
  have hD : va_D A [(a0, .inr (9, [.ref a1, .int 2, .ref a2, .ref a3, .ref a4, .ref a5, .ref a6, .ref a7, .ref a8])), (a1, .inl (k0, 1700, .inl f_6))] := hD
  refine lv_iinc (v := 8) (lv' := [(2, .int 8), (0, .ref a0), (1, .int p0)]) hx hb dX9_putBytes_40 hl (k := 0) rfl (by decide) (by decide) rfl (fun ls hl => ?_)
  refine lv_goto (tgt := 3) hx hb dX9_putBytes_43 (by decide) ?_
  refine lv_iload_n hx hb dX9_putBytes_3 rfl (lv_at hl 0 rfl) ?_
  refine lv_if_lt (tgt := 46) hx hb dX9_putBytes_4 (by decide) (fun h => absurd h (by decide)) (fun _ => ?_)
  refine lv_aload_n hx hb dX9_putBytes_7 rfl (lv_at hl 1 rfl) ?_
  refine va_get (D := (dC, dI)) (ci := 9) (v := .int 2) (C := RX9) (T := TX9) (N := 9) hx hb hts iwX9 hown hK hP 0 rfl rfl 1 (by decide) (hts _ mw_557) (fun _ h9 => h9) rfl dX9_putBytes_8 ?_
  refine lv_sipush (v := 1700) hx hb dX9_putBytes_11 (by decide) ?_
  refine lv_icmp_ge (tgt := 46) hx hb dX9_putBytes_14 (by decide) (fun h => absurd h (by decide)) (fun _ => ?_)
  refine lv_aload_n hx hb dX9_putBytes_17 rfl (lv_at hl 1 rfl) ?_
  refine va_get (D := (dC, dI)) (ci := 9) (v := .ref a1) (C := RX9) (T := TX9) (N := 9) hx hb hts iwX9 hown hK hP 0 rfl rfl 0 (by decide) (hts _ mw_556) (fun _ h9 => h9) rfl dX9_putBytes_18 ?_
  refine lv_aload_n hx hb dX9_putBytes_21 rfl (lv_at hl 1 rfl) ?_
  refine va_get (D := (dC, dI)) (ci := 9) (v := .int 2) (C := RX9) (T := TX9) (N := 9) hx hb hts iwX9 hown hK hP 0 rfl rfl 1 (by decide) (hts _ mw_557) (fun _ h9 => h9) rfl dX9_putBytes_22 ?_
  refine lv_iload_n hx hb dX9_putBytes_25 rfl (lv_at hl 2 rfl) ?_
  refine lv_iload_n hx hb dX9_putBytes_26 rfl (lv_at hl 0 rfl) ?_
  refine lv_ishr hx hb dX9_putBytes_27 ?_
  refine lv_topi (fun v_7 ev_7 => ?_)
  refine lv_i2b hx hb dX9_putBytes_28 rfl ?_
  refine lv_topi (fun v_8 ev_8 => ?_)
  refine xh_bast hx hb hK hP hD hS 1 0 rfl rfl (x_vp (k := 2) (by decide) (by decide) (by decide)) dX9_putBytes_29 (fun f_9 H locs hP hD hS => ?_)
  have hP : va_P (dC, dI) CL [(a0, .inr (9, [.ref a1, .int 2, .ref a2, .ref a3, .ref a4, .ref a5, .ref a6, .ref a7, .ref a8])), (a1, .inl (k0, 1700, .inl f_9))] H := hP
  have hD : va_D A [(a0, .inr (9, [.ref a1, .int 2, .ref a2, .ref a3, .ref a4, .ref a5, .ref a6, .ref a7, .ref a8])), (a1, .inl (k0, 1700, .inl f_9))] := hD
  refine lv_aload_n hx hb dX9_putBytes_30 rfl (lv_at hl 1 rfl) ?_
  refine lv_dup hx hb dX9_putBytes_31 rfl ?_
  refine va_get (D := (dC, dI)) (ci := 9) (v := .int 2) (C := RX9) (T := TX9) (N := 9) hx hb hts iwX9 hown hK hP 0 rfl rfl 1 (by decide) (hts _ mw_557) (fun _ h9 => h9) rfl dX9_putBytes_32 ?_
  refine lv_iconst (v := 1) hx hb dX9_putBytes_35 (by decide) ?_
  refine lv_iadd hx hb dX9_putBytes_36 ?_
  refine x_lit 3 (by decide) ?_
  refine va_put (D := (dC, dI)) (ci := 9) (v := .int 3) (ty := .int) (C := RX9) (T := TX9) (N := 9) hx hb hts iwX9 tyX9 tyX9_ok nmX9 hown hK hP hD hS 0 rfl rfl 1 (by decide) (hts _ mw_557) (fun _ h9 => h9) rfl (by decide +kernel) rfl rfl (Nat.le_of_ble_eq_true rfl) dX9_putBytes_37 (fun H locs hP hD hS => ?_)
  have hP : va_P (dC, dI) CL [(a0, .inr (9, [.ref a1, .int 3, .ref a2, .ref a3, .ref a4, .ref a5, .ref a6, .ref a7, .ref a8])), (a1, .inl (k0, 1700, .inl f_9))] H := hP
  have hD : va_D A [(a0, .inr (9, [.ref a1, .int 3, .ref a2, .ref a3, .ref a4, .ref a5, .ref a6, .ref a7, .ref a8])), (a1, .inl (k0, 1700, .inl f_9))] := hD
  refine lv_iinc (v := 0) (lv' := [(2, .int 0), (0, .ref a0), (1, .int p0)]) hx hb dX9_putBytes_40 hl (k := 0) rfl (by decide) (by decide) rfl (fun ls hl => ?_)
  refine lv_goto (tgt := 3) hx hb dX9_putBytes_43 (by decide) ?_
  refine lv_iload_n hx hb dX9_putBytes_3 rfl (lv_at hl 0 rfl) ?_
  refine lv_if_lt (tgt := 46) hx hb dX9_putBytes_4 (by decide) (fun h => absurd h (by decide)) (fun _ => ?_)
  refine lv_aload_n hx hb dX9_putBytes_7 rfl (lv_at hl 1 rfl) ?_
  refine va_get (D := (dC, dI)) (ci := 9) (v := .int 3) (C := RX9) (T := TX9) (N := 9) hx hb hts iwX9 hown hK hP 0 rfl rfl 1 (by decide) (hts _ mw_557) (fun _ h9 => h9) rfl dX9_putBytes_8 ?_
  refine lv_sipush (v := 1700) hx hb dX9_putBytes_11 (by decide) ?_
  refine lv_icmp_ge (tgt := 46) hx hb dX9_putBytes_14 (by decide) (fun h => absurd h (by decide)) (fun _ => ?_)
  refine lv_aload_n hx hb dX9_putBytes_17 rfl (lv_at hl 1 rfl) ?_
  refine va_get (D := (dC, dI)) (ci := 9) (v := .ref a1) (C := RX9) (T := TX9) (N := 9) hx hb hts iwX9 hown hK hP 0 rfl rfl 0 (by decide) (hts _ mw_556) (fun _ h9 => h9) rfl dX9_putBytes_18 ?_
  refine lv_aload_n hx hb dX9_putBytes_21 rfl (lv_at hl 1 rfl) ?_
  refine va_get (D := (dC, dI)) (ci := 9) (v := .int 3) (C := RX9) (T := TX9) (N := 9) hx hb hts iwX9 hown hK hP 0 rfl rfl 1 (by decide) (hts _ mw_557) (fun _ h9 => h9) rfl dX9_putBytes_22 ?_
  refine lv_iload_n hx hb dX9_putBytes_25 rfl (lv_at hl 2 rfl) ?_
  refine lv_iload_n hx hb dX9_putBytes_26 rfl (lv_at hl 0 rfl) ?_
  refine lv_ishr hx hb dX9_putBytes_27 ?_
  refine lv_topi (fun v_10 ev_10 => ?_)
  refine lv_i2b hx hb dX9_putBytes_28 rfl ?_
  refine lv_topi (fun v_11 ev_11 => ?_)
  refine xh_bast hx hb hK hP hD hS 1 0 rfl rfl (x_vp (k := 3) (by decide) (by decide) (by decide)) dX9_putBytes_29 (fun f_12 H locs hP hD hS => ?_)
  have hP : va_P (dC, dI) CL [(a0, .inr (9, [.ref a1, .int 3, .ref a2, .ref a3, .ref a4, .ref a5, .ref a6, .ref a7, .ref a8])), (a1, .inl (k0, 1700, .inl f_12))] H := hP
  have hD : va_D A [(a0, .inr (9, [.ref a1, .int 3, .ref a2, .ref a3, .ref a4, .ref a5, .ref a6, .ref a7, .ref a8])), (a1, .inl (k0, 1700, .inl f_12))] := hD
  refine lv_aload_n hx hb dX9_putBytes_30 rfl (lv_at hl 1 rfl) ?_
  refine lv_dup hx hb dX9_putBytes_31 rfl ?_
  refine va_get (D := (dC, dI)) (ci := 9) (v := .int 3) (C := RX9) (T := TX9) (N := 9) hx hb hts iwX9 hown hK hP 0 rfl rfl 1 (by decide) (hts _ mw_557) (fun _ h9 => h9) rfl dX9_putBytes_32 ?_
  refine lv_iconst (v := 1) hx hb dX9_putBytes_35 (by decide) ?_
  refine lv_iadd hx hb dX9_putBytes_36 ?_
  refine x_lit 4 (by decide) ?_
  refine va_put (D := (dC, dI)) (ci := 9) (v := .int 4) (ty := .int) (C := RX9) (T := TX9) (N := 9) hx hb hts iwX9 tyX9 tyX9_ok nmX9 hown hK hP hD hS 0 rfl rfl 1 (by decide) (hts _ mw_557) (fun _ h9 => h9) rfl (by decide +kernel) rfl rfl (Nat.le_of_ble_eq_true rfl) dX9_putBytes_37 (fun H locs hP hD hS => ?_)
  have hP : va_P (dC, dI) CL [(a0, .inr (9, [.ref a1, .int 4, .ref a2, .ref a3, .ref a4, .ref a5, .ref a6, .ref a7, .ref a8])), (a1, .inl (k0, 1700, .inl f_12))] H := hP
  have hD : va_D A [(a0, .inr (9, [.ref a1, .int 4, .ref a2, .ref a3, .ref a4, .ref a5, .ref a6, .ref a7, .ref a8])), (a1, .inl (k0, 1700, .inl f_12))] := hD
  refine lv_iinc (v := (-8)) (lv' := [(2, .int (-8)), (0, .ref a0), (1, .int p0)]) hx hb dX9_putBytes_40 hl (k := 0) rfl (by decide) (by decide) rfl (fun ls hl => ?_)
  refine lv_goto (tgt := 3) hx hb dX9_putBytes_43 (by decide) ?_
  refine lv_iload_n hx hb dX9_putBytes_3 rfl (lv_at hl 0 rfl) ?_
  refine lv_if_lt (tgt := 46) hx hb dX9_putBytes_4 (by decide) (fun _ => ?_) (fun h => (h (by decide)).elim)
  refine W.widen (k := 0) (n := 0) (Nat.le_of_ble_eq_true rfl) (Nat.le_of_ble_eq_true rfl) ?_
  have hP9 := hP.sub (ws' := [(a0, .inr (9, [.ref a1, .int 4, .ref a2, .ref a3, .ref a4, .ref a5, .ref a6, .ref a7, .ref a8])), (a1, .inl (k0, 1700, .inl f_12))]) [0, 1] rfl
  have hD9 := hD.sub (ws' := [(a0, .inr (9, [.ref a1, .int 4, .ref a2, .ref a3, .ref a4, .ref a5, .ref a6, .ref a7, .ref a8])), (a1, .inl (k0, 1700, .inl f_12))]) [0, 1] (by decide) rfl
  have hK9 := hK.sub (tys' := [(k0, .byte)]) [0] rfl
  exact W.vret hx hb hr (fun t ht hW => ⟨⟨(), rfl, trivial, f_12, by rw [ht]; exact hP9, va_K.moved hW.alike hK9, hD9⟩, hS.F ht⟩) hS.2.2 dX9_putBytes_46
set_option maxHeartbeats 4000000 in
set_option maxRecDepth 100000 in
theorem zX9_putBytes_2 (l : Launch) (dC : Nat → ClassId) (dI : Nat → Nat → Nat) (adK adV : Nat → Nat) (sz : Nat) (a0 : Nat) (p0 : Int32) (a1 : Nat) (a2 : Nat) (a3 : Nat) (a4 : Nat) (a5 : Nat) (a6 : Nat) (a7 : Nat) (a8 : Nat) (k0 : ClassId) (f0 : Nat → Int32) : Met l yX9_putBytes (Cond.code yX9_putBytes cX9_putBytes 3 none :: TB) ({ frames := 1, cells := 0, slots := 0, locals := 100 }) (XP (dC, dI) adK adV [.ref a0, .int p0] sz [(a0, .inr (9, [.ref a1, .int 4, .ref a2, .ref a3, .ref a4, .ref a5, .ref a6, .ref a7, .ref a8])), (a1, .inl (k0, 1700, .inl f0))] [(k0, .byte)]) (va_Qv (fun _ : Unit => True) (fun _ t => ∃ f_12 : Nat → Int32, va_P (dC, dI) CL [(a0, .inr (9, [.ref a1, .int 8, .ref a2, .ref a3, .ref a4, .ref a5, .ref a6, .ref a7, .ref a8])), (a1, .inl (k0, 1700, .inl f_12))] t.heap ∧ va_K (dC, dI) CL [(k0, .byte)] t ∧ va_D (va_A [(a0, .inr (9, [.ref a1, .int 4, .ref a2, .ref a3, .ref a4, .ref a5, .ref a6, .ref a7, .ref a8])), (a1, .inl (k0, 1700, .inl f0))] sz) [(a0, .inr (9, [.ref a1, .int 8, .ref a2, .ref a3, .ref a4, .ref a5, .ref a6, .ref a7, .ref a8])), (a1, .inl (k0, 1700, .inl f_12))]) (va_A [(a0, .inr (9, [.ref a1, .int 4, .ref a2, .ref a3, .ref a4, .ref a5, .ref a6, .ref a7, .ref a8])), (a1, .inl (k0, 1700, .inl f0))] sz)) 0 0 (va_A [(a0, .inr (9, [.ref a1, .int 4, .ref a2, .ref a3, .ref a4, .ref a5, .ref a6, .ref a7, .ref a8])), (a1, .inl (k0, 1700, .inl f0))] sz) := by
  refine Met.ofW (cc := cX9_putBytes) (maxL := 3) (ret := none) (by decide) rfl ?_
  intro p e s m args below meth c s₁ B hml hv
  obtain ⟨rfl, hsz, hP, hK, hD0, hC⟩ := hv
  have hx := B.exec
  have hb := B.bytes
  have hr := B.returns
  have hts0 := atoms_spec (ws := Cond.code yX9_putBytes cX9_putBytes 3 none :: TB) B.pre
  have hts : ∀ w ∈ TB, w.before _ s = true := fun w h => hts0 w (List.mem_cons_of_mem _ h)
  have hown : s.vm.findClass RX9 = some m.cls := findClass_of_methodNamed B.named
  have hlocks := B.notSynchronized
  subst hsz
  have hD := hD0.self (sz := s.heap.size)
  generalize hAe : va_A [(a0, .inr (9, [.ref a1, .int 4, .ref a2, .ref a3, .ref a4, .ref a5, .ref a6, .ref a7, .ref a8])), (a1, .inl (k0, 1700, .inl f0))] s.heap.size = A at hD hC ⊢
  have hA : ∀ q : Nat, s.heap.size ≤ q → A q := fun q h => by rw [← hAe]; exact Or.inr h
  have hl := lv_entry ([.ref a0, .int p0]) (n := 3) (Nat.le_of_ble_eq_true rfl)
  rw [lg_entry_eq]
  generalize (lg_sl ([.ref a0, .int p0]) ++ List.replicate (3 - (lg_sl ([.ref a0, .int p0])).length) Slot.unset).toArray = ls at hl ⊢
  have hl : lv_has ls 3 [(0, .ref a0), (1, .int p0)] := hl
  have hP : va_P (dC, dI) CL [(a0, .inr (9, [.ref a1, .int 4, .ref a2, .ref a3, .ref a4, .ref a5, .ref a6, .ref a7, .ref a8])), (a1, .inl (k0, 1700, .inl f0))] s.heap := hP
  obtain ⟨H, hH⟩ : ∃ z, z = s.heap := ⟨_, rfl⟩
  rw [← hH] at hP ⊢
  have hS : va_S A s.heap H [] := by rw [hH]; exact va_S.rf
  refine lv_bipush (v := 24) hx hb dX9_putBytes_0 (by decide) ?_
  refine lv_istore_n (lv' := [(2, .int 24), (0, .ref a0), (1, .int p0)]) hx hb dX9_putBytes_2 rfl hl (by decide) rfl (fun ls hl => ?_)
  refine lv_iload_n hx hb dX9_putBytes_3 rfl (lv_at hl 0 rfl) ?_
  refine lv_if_lt (tgt := 46) hx hb dX9_putBytes_4 (by decide) (fun h => absurd h (by decide)) (fun _ => ?_)
  refine lv_aload_n hx hb dX9_putBytes_7 rfl (lv_at hl 1 rfl) ?_
  refine va_get (D := (dC, dI)) (ci := 9) (v := .int 4) (C := RX9) (T := TX9) (N := 9) hx hb hts iwX9 hown hK hP 0 rfl rfl 1 (by decide) (hts _ mw_557) (fun _ h9 => h9) rfl dX9_putBytes_8 ?_
  refine lv_sipush (v := 1700) hx hb dX9_putBytes_11 (by decide) ?_
  refine lv_icmp_ge (tgt := 46) hx hb dX9_putBytes_14 (by decide) (fun h => absurd h (by decide)) (fun _ => ?_)
  refine lv_aload_n hx hb dX9_putBytes_17 rfl (lv_at hl 1 rfl) ?_
  refine va_get (D := (dC, dI)) (ci := 9) (v := .ref a1) (C := RX9) (T := TX9) (N := 9) hx hb hts iwX9 hown hK hP 0 rfl rfl 0 (by decide) (hts _ mw_556) (fun _ h9 => h9) rfl dX9_putBytes_18 ?_
  refine lv_aload_n hx hb dX9_putBytes_21 rfl (lv_at hl 1 rfl) ?_
  refine va_get (D := (dC, dI)) (ci := 9) (v := .int 4) (C := RX9) (T := TX9) (N := 9) hx hb hts iwX9 hown hK hP 0 rfl rfl 1 (by decide) (hts _ mw_557) (fun _ h9 => h9) rfl dX9_putBytes_22 ?_
  refine lv_iload_n hx hb dX9_putBytes_25 rfl (lv_at hl 2 rfl) ?_
  refine lv_iload_n hx hb dX9_putBytes_26 rfl (lv_at hl 0 rfl) ?_
  refine lv_ishr hx hb dX9_putBytes_27 ?_
  refine lv_topi (fun v_1 ev_1 => ?_)
  refine lv_i2b hx hb dX9_putBytes_28 rfl ?_
  refine lv_topi (fun v_2 ev_2 => ?_)
  refine xh_bast hx hb hK hP hD hS 1 0 rfl rfl (x_vp (k := 4) (by decide) (by decide) (by decide)) dX9_putBytes_29 (fun f_3 H locs hP hD hS => ?_)
  have hP : va_P (dC, dI) CL [(a0, .inr (9, [.ref a1, .int 4, .ref a2, .ref a3, .ref a4, .ref a5, .ref a6, .ref a7, .ref a8])), (a1, .inl (k0, 1700, .inl f_3))] H := hP
  have hD : va_D A [(a0, .inr (9, [.ref a1, .int 4, .ref a2, .ref a3, .ref a4, .ref a5, .ref a6, .ref a7, .ref a8])), (a1, .inl (k0, 1700, .inl f_3))] := hD
  refine lv_aload_n hx hb dX9_putBytes_30 rfl (lv_at hl 1 rfl) ?_
  refine lv_dup hx hb dX9_putBytes_31 rfl ?_
  refine va_get (D := (dC, dI)) (ci := 9) (v := .int 4) (C := RX9) (T := TX9) (N := 9) hx hb hts iwX9 hown hK hP 0 rfl rfl 1 (by decide) (hts _ mw_557) (fun _ h9 => h9) rfl dX9_putBytes_32 ?_
  refine lv_iconst (v := 1) hx hb dX9_putBytes_35 (by decide) ?_
  refine lv_iadd hx hb dX9_putBytes_36 ?_
  refine x_lit 5 (by decide) ?_
  refine va_put (D := (dC, dI)) (ci := 9) (v := .int 5) (ty := .int) (C := RX9) (T := TX9) (N := 9) hx hb hts iwX9 tyX9 tyX9_ok nmX9 hown hK hP hD hS 0 rfl rfl 1 (by decide) (hts _ mw_557) (fun _ h9 => h9) rfl (by decide +kernel) rfl rfl (Nat.le_of_ble_eq_true rfl) dX9_putBytes_37 (fun H locs hP hD hS => ?_)
  have hP : va_P (dC, dI) CL [(a0, .inr (9, [.ref a1, .int 5, .ref a2, .ref a3, .ref a4, .ref a5, .ref a6, .ref a7, .ref a8])), (a1, .inl (k0, 1700, .inl f_3))] H := hP
  have hD : va_D A [(a0, .inr (9, [.ref a1, .int 5, .ref a2, .ref a3, .ref a4, .ref a5, .ref a6, .ref a7, .ref a8])), (a1, .inl (k0, 1700, .inl f_3))] := hD
  refine lv_iinc (v := 16) (lv' := [(2, .int 16), (0, .ref a0), (1, .int p0)]) hx hb dX9_putBytes_40 hl (k := 0) rfl (by decide) (by decide) rfl (fun ls hl => ?_)
  refine lv_goto (tgt := 3) hx hb dX9_putBytes_43 (by decide) ?_
  refine lv_iload_n hx hb dX9_putBytes_3 rfl (lv_at hl 0 rfl) ?_
  refine lv_if_lt (tgt := 46) hx hb dX9_putBytes_4 (by decide) (fun h => absurd h (by decide)) (fun _ => ?_)
  refine lv_aload_n hx hb dX9_putBytes_7 rfl (lv_at hl 1 rfl) ?_
  refine va_get (D := (dC, dI)) (ci := 9) (v := .int 5) (C := RX9) (T := TX9) (N := 9) hx hb hts iwX9 hown hK hP 0 rfl rfl 1 (by decide) (hts _ mw_557) (fun _ h9 => h9) rfl dX9_putBytes_8 ?_
  refine lv_sipush (v := 1700) hx hb dX9_putBytes_11 (by decide) ?_
  refine lv_icmp_ge (tgt := 46) hx hb dX9_putBytes_14 (by decide) (fun h => absurd h (by decide)) (fun _ => ?_)
  refine lv_aload_n hx hb dX9_putBytes_17 rfl (lv_at hl 1 rfl) ?_
  refine va_get (D := (dC, dI)) (ci := 9) (v := .ref a1) (C := RX9) (T := TX9) (N := 9) hx hb hts iwX9 hown hK hP 0 rfl rfl 0 (by decide) (hts _ mw_556) (fun _ h9 => h9) rfl dX9_putBytes_18 ?_
  refine lv_aload_n hx hb dX9_putBytes_21 rfl (lv_at hl 1 rfl) ?_
  refine va_get (D := (dC, dI)) (ci := 9) (v := .int 5) (C := RX9) (T := TX9) (N := 9) hx hb hts iwX9 hown hK hP 0 rfl rfl 1 (by decide) (hts _ mw_557) (fun _ h9 => h9) rfl dX9_putBytes_22 ?_
  refine lv_iload_n hx hb dX9_putBytes_25 rfl (lv_at hl 2 rfl) ?_
  refine lv_iload_n hx hb dX9_putBytes_26 rfl (lv_at hl 0 rfl) ?_
  refine lv_ishr hx hb dX9_putBytes_27 ?_
  refine lv_topi (fun v_4 ev_4 => ?_)
  refine lv_i2b hx hb dX9_putBytes_28 rfl ?_
  refine lv_topi (fun v_5 ev_5 => ?_)
  refine xh_bast hx hb hK hP hD hS 1 0 rfl rfl (x_vp (k := 5) (by decide) (by decide) (by decide)) dX9_putBytes_29 (fun f_6 H locs hP hD hS => ?_)
  have hP : va_P (dC, dI) CL [(a0, .inr (9, [.ref a1, .int 5, .ref a2, .ref a3, .ref a4, .ref a5, .ref a6, .ref a7, .ref a8])), (a1, .inl (k0, 1700, .inl f_6))] H := hP
  have hD : va_D A [(a0, .inr (9, [.ref a1, .int 5, .ref a2, .ref a3, .ref a4, .ref a5, .ref a6, .ref a7, .ref a8])), (a1, .inl (k0, 1700, .inl f_6))] := hD
  refine lv_aload_n hx hb dX9_putBytes_30 rfl (lv_at hl 1 rfl) ?_
  refine lv_dup hx hb dX9_putBytes_31 rfl ?_
  refine va_get (D := (dC, dI)) (ci := 9) (v := .int 5) (C := RX9) (T := TX9) (N := 9) hx hb hts iwX9 hown hK hP 0 rfl rfl 1 (by decide) (hts _ mw_557) (fun _ h9 => h9) rfl dX9_putBytes_32 ?_
  refine lv_iconst (v := 1) hx hb dX9_putBytes_35 (by decide) ?_
  refine lv_iadd hx hb dX9_putBytes_36 ?_
  refine x_lit 6 (by decide) ?_
  refine va_put (D := (dC, dI)) (ci := 9) (v := .int 6) (ty := .int) (C := RX9) (T := TX9) (N := 9) hx hb hts iwX9 tyX9 tyX9_ok nmX9 hown hK hP hD hS 0 rfl rfl 1 (by decide) (hts _ mw_557) (fun _ h9 => h9) rfl (by decide +kernel) rfl rfl (Nat.le_of_ble_eq_true rfl) dX9_putBytes_37 (fun H locs hP hD hS => ?_)
  have hP : va_P (dC, dI) CL [(a0, .inr (9, [.ref a1, .int 6, .ref a2, .ref a3, .ref a4, .ref a5, .ref a6, .ref a7, .ref a8])), (a1, .inl (k0, 1700, .inl f_6))] H := hP
  have hD : va_D A [(a0, .inr (9, [.ref a1, .int 6, .ref a2, .ref a3, .ref a4, .ref a5, .ref a6, .ref a7, .ref a8])), (a1, .inl (k0, 1700, .inl f_6))] := hD
  refine lv_iinc (v := 8) (lv' := [(2, .int 8), (0, .ref a0), (1, .int p0)]) hx hb dX9_putBytes_40 hl (k := 0) rfl (by decide) (by decide) rfl (fun ls hl => ?_)
  refine lv_goto (tgt := 3) hx hb dX9_putBytes_43 (by decide) ?_
  refine lv_iload_n hx hb dX9_putBytes_3 rfl (lv_at hl 0 rfl) ?_
  refine lv_if_lt (tgt := 46) hx hb dX9_putBytes_4 (by decide) (fun h => absurd h (by decide)) (fun _ => ?_)
  refine lv_aload_n hx hb dX9_putBytes_7 rfl (lv_at hl 1 rfl) ?_
  refine va_get (D := (dC, dI)) (ci := 9) (v := .int 6) (C := RX9) (T := TX9) (N := 9) hx hb hts iwX9 hown hK hP 0 rfl rfl 1 (by decide) (hts _ mw_557) (fun _ h9 => h9) rfl dX9_putBytes_8 ?_
  refine lv_sipush (v := 1700) hx hb dX9_putBytes_11 (by decide) ?_
  refine lv_icmp_ge (tgt := 46) hx hb dX9_putBytes_14 (by decide) (fun h => absurd h (by decide)) (fun _ => ?_)
  refine lv_aload_n hx hb dX9_putBytes_17 rfl (lv_at hl 1 rfl) ?_
  refine va_get (D := (dC, dI)) (ci := 9) (v := .ref a1) (C := RX9) (T := TX9) (N := 9) hx hb hts iwX9 hown hK hP 0 rfl rfl 0 (by decide) (hts _ mw_556) (fun _ h9 => h9) rfl dX9_putBytes_18 ?_
  refine lv_aload_n hx hb dX9_putBytes_21 rfl (lv_at hl 1 rfl) ?_
  refine va_get (D := (dC, dI)) (ci := 9) (v := .int 6) (C := RX9) (T := TX9) (N := 9) hx hb hts iwX9 hown hK hP 0 rfl rfl 1 (by decide) (hts _ mw_557) (fun _ h9 => h9) rfl dX9_putBytes_22 ?_
  refine lv_iload_n hx hb dX9_putBytes_25 rfl (lv_at hl 2 rfl) ?_
  refine lv_iload_n hx hb dX9_putBytes_26 rfl (lv_at hl 0 rfl) ?_
  refine lv_ishr hx hb dX9_putBytes_27 ?_
  refine lv_topi (fun v_7 ev_7 => ?_)
  refine lv_i2b hx hb dX9_putBytes_28 rfl ?_
  refine lv_topi (fun v_8 ev_8 => ?_)
  refine xh_bast hx hb hK hP hD hS 1 0 rfl rfl (x_vp (k := 6) (by decide) (by decide) (by decide)) dX9_putBytes_29 (fun f_9 H locs hP hD hS => ?_)
  have hP : va_P (dC, dI) CL [(a0, .inr (9, [.ref a1, .int 6, .ref a2, .ref a3, .ref a4, .ref a5, .ref a6, .ref a7, .ref a8])), (a1, .inl (k0, 1700, .inl f_9))] H := hP
  have hD : va_D A [(a0, .inr (9, [.ref a1, .int 6, .ref a2, .ref a3, .ref a4, .ref a5, .ref a6, .ref a7, .ref a8])), (a1, .inl (k0, 1700, .inl f_9))] := hD
  refine lv_aload_n hx hb dX9_putBytes_30 rfl (lv_at hl 1 rfl) ?_
  refine lv_dup hx hb dX9_putBytes_31 rfl ?_
  refine va_get (D := (dC, dI)) (ci := 9) (v := .int 6) (C := RX9) (T := TX9) (N := 9) hx hb hts iwX9 hown hK hP 0 rfl rfl 1 (by decide) (hts _ mw_557) (fun _ h9 => h9) rfl dX9_putBytes_32 ?_
  refine lv_iconst (v := 1) hx hb dX9_putBytes_35 (by decide) ?_
  refine lv_iadd hx hb dX9_putBytes_36 ?_
  refine x_lit 7 (by decide) ?_
  refine va_put (D := (dC, dI)) (ci := 9) (v := .int 7) (ty := .int) (C := RX9) (T := TX9) (N := 9) hx hb hts iwX9 tyX9 tyX9_ok nmX9 hown hK hP hD hS 0 rfl rfl 1 (by decide) (hts _ mw_557) (fun _ h9 => h9) rfl (by decide +kernel) rfl rfl (Nat.le_of_ble_eq_true rfl) dX9_putBytes_37 (fun H locs hP hD hS => ?_)
  have hP : va_P (dC, dI) CL [(a0, .inr (9, [.ref a1, .int 7, .ref a2, .ref a3, .ref a4, .ref a5, .ref a6, .ref a7, .ref a8])), (a1, .inl (k0, 1700, .inl f_9))] H := hP
  have hD : va_D A [(a0, .inr (9, [.ref a1, .int 7, .ref a2, .ref a3, .ref a4, .ref a5, .ref a6, .ref a7, .ref a8])), (a1, .inl (k0, 1700, .inl f_9))] := hD
  refine lv_iinc (v := 0) (lv' := [(2, .int 0), (0, .ref a0), (1, .int p0)]) hx hb dX9_putBytes_40 hl (k := 0) rfl (by decide) (by decide) rfl (fun ls hl => ?_)
  refine lv_goto (tgt := 3) hx hb dX9_putBytes_43 (by decide) ?_
  refine lv_iload_n hx hb dX9_putBytes_3 rfl (lv_at hl 0 rfl) ?_
  refine lv_if_lt (tgt := 46) hx hb dX9_putBytes_4 (by decide) (fun h => absurd h (by decide)) (fun _ => ?_)
  refine lv_aload_n hx hb dX9_putBytes_7 rfl (lv_at hl 1 rfl) ?_
  refine va_get (D := (dC, dI)) (ci := 9) (v := .int 7) (C := RX9) (T := TX9) (N := 9) hx hb hts iwX9 hown hK hP 0 rfl rfl 1 (by decide) (hts _ mw_557) (fun _ h9 => h9) rfl dX9_putBytes_8 ?_
  refine lv_sipush (v := 1700) hx hb dX9_putBytes_11 (by decide) ?_
  refine lv_icmp_ge (tgt := 46) hx hb dX9_putBytes_14 (by decide) (fun h => absurd h (by decide)) (fun _ => ?_)
  refine lv_aload_n hx hb dX9_putBytes_17 rfl (lv_at hl 1 rfl) ?_
  refine va_get (D := (dC, dI)) (ci := 9) (v := .ref a1) (C := RX9) (T := TX9) (N := 9) hx hb hts iwX9 hown hK hP 0 rfl rfl 0 (by decide) (hts _ mw_556) (fun _ h9 => h9) rfl dX9_putBytes_18 ?_
  refine lv_aload_n hx hb dX9_putBytes_21 rfl (lv_at hl 1 rfl) ?_
  refine va_get (D := (dC, dI)) (ci := 9) (v := .int 7) (C := RX9) (T := TX9) (N := 9) hx hb hts iwX9 hown hK hP 0 rfl rfl 1 (by decide) (hts _ mw_557) (fun _ h9 => h9) rfl dX9_putBytes_22 ?_
  refine lv_iload_n hx hb dX9_putBytes_25 rfl (lv_at hl 2 rfl) ?_
  refine lv_iload_n hx hb dX9_putBytes_26 rfl (lv_at hl 0 rfl) ?_
  refine lv_ishr hx hb dX9_putBytes_27 ?_
  refine lv_topi (fun v_10 ev_10 => ?_)
  refine lv_i2b hx hb dX9_putBytes_28 rfl ?_
  refine lv_topi (fun v_11 ev_11 => ?_)
  refine xh_bast hx hb hK hP hD hS 1 0 rfl rfl (x_vp (k := 7) (by decide) (by decide) (by decide)) dX9_putBytes_29 (fun f_12 H locs hP hD hS => ?_)
  have hP : va_P (dC, dI) CL [(a0, .inr (9, [.ref a1, .int 7, .ref a2, .ref a3, .ref a4, .ref a5, .ref a6, .ref a7, .ref a8])), (a1, .inl (k0, 1700, .inl f_12))] H := hP
  have hD : va_D A [(a0, .inr (9, [.ref a1, .int 7, .ref a2, .ref a3, .ref a4, .ref a5, .ref a6, .ref a7, .ref a8])), (a1, .inl (k0, 1700, .inl f_12))] := hD
  refine lv_aload_n hx hb dX9_putBytes_30 rfl (lv_at hl 1 rfl) ?_
  refine lv_dup hx hb dX9_putBytes_31 rfl ?_
  refine va_get (D := (dC, dI)) (ci := 9) (v := .int 7) (C := RX9) (T := TX9) (N := 9) hx hb hts iwX9 hown hK hP 0 rfl rfl 1 (by decide) (hts _ mw_557) (fun _ h9 => h9) rfl dX9_putBytes_32 ?_
  refine lv_iconst (v := 1) hx hb dX9_putBytes_35 (by decide) ?_
  refine lv_iadd hx hb dX9_putBytes_36 ?_
  refine x_lit 8 (by decide) ?_
  refine va_put (D := (dC, dI)) (ci := 9) (v := .int 8) (ty := .int) (C := RX9) (T := TX9) (N := 9) hx hb hts iwX9 tyX9 tyX9_ok nmX9 hown hK hP hD hS 0 rfl rfl 1 (by decide) (hts _ mw_557) (fun _ h9 => h9) rfl (by decide +kernel) rfl rfl (Nat.le_of_ble_eq_true rfl) dX9_putBytes_37 (fun H locs hP hD hS => ?_)
  have hP : va_P (dC, dI) CL [(a0, .inr (9, [.ref a1, .int 8, .ref a2, .ref a3, .ref a4, .ref a5, .ref a6, .ref a7, .ref a8])), (a1, .inl (k0, 1700, .inl f_12))] H := hP
  have hD : va_D A [(a0, .inr (9, [.ref a1, .int 8, .ref a2, .ref a3, .ref a4, .ref a5, .ref a6, .ref a7, .ref a8])), (a1, .inl (k0, 1700, .inl f_12))] := hD
  refine lv_iinc (v := (-8)) (lv' := [(2, .int (-8)), (0, .ref a0), (1, .int p0)]) hx hb dX9_putBytes_40 hl (k := 0) rfl (by decide) (by decide) rfl (fun ls hl => ?_)
  refine lv_goto (tgt := 3) hx hb dX9_putBytes_43 (by decide) ?_
  refine lv_iload_n hx hb dX9_putBytes_3 rfl (lv_at hl 0 rfl) ?_
  refine lv_if_lt (tgt := 46) hx hb dX9_putBytes_4 (by decide) (fun _ => ?_) (fun h => (h (by decide)).elim)
  refine W.widen (k := 0) (n := 0) (Nat.le_of_ble_eq_true rfl) (Nat.le_of_ble_eq_true rfl) ?_
  have hP9 := hP.sub (ws' := [(a0, .inr (9, [.ref a1, .int 8, .ref a2, .ref a3, .ref a4, .ref a5, .ref a6, .ref a7, .ref a8])), (a1, .inl (k0, 1700, .inl f_12))]) [0, 1] rfl
  have hD9 := hD.sub (ws' := [(a0, .inr (9, [.ref a1, .int 8, .ref a2, .ref a3, .ref a4, .ref a5, .ref a6, .ref a7, .ref a8])), (a1, .inl (k0, 1700, .inl f_12))]) [0, 1] (by decide) rfl
  have hK9 := hK.sub (tys' := [(k0, .byte)]) [0] rfl
  exact W.vret hx hb hr (fun t ht hW => ⟨⟨(), rfl, trivial, f_12, by rw [ht]; exact hP9, va_K.moved hW.alike hK9, hD9⟩, hS.F ht⟩) hS.2.2 dX9_putBytes_46
set_option maxHeartbeats 4000000 in
set_option maxRecDepth 100000 in
theorem zX9_putBytes_3 (l : Launch) (dC : Nat → ClassId) (dI : Nat → Nat → Nat) (adK adV : Nat → Nat) (sz : Nat) (a0 : Nat) (p0 : Int32) (a1 : Nat) (a2 : Nat) (a3 : Nat) (a4 : Nat) (a5 : Nat) (a6 : Nat) (a7 : Nat) (a8 : Nat) (k0 : ClassId) (f0 : Nat → Int32) : Met l yX9_putBytes (Cond.code yX9_putBytes cX9_putBytes 3 none :: TB) ({ frames := 1, cells := 0, slots := 0, locals := 100 }) (XP (dC, dI) adK adV [.ref a0, .int p0] sz [(a0, .inr (9, [.ref a1, .int 8, .ref a2, .ref a3, .ref a4, .ref a5, .ref a6, .ref a7, .ref a8])), (a1, .inl (k0, 1700, .inl f0))] [(k0, .byte)]) (va_Qv (fun _ : Unit => True) (fun _ t => ∃ f_12 : Nat → Int32, va_P (dC, dI) CL [(a0, .inr (9, [.ref a1, .int 12, .ref a2, .ref a3, .ref a4, .ref a5, .ref a6, .ref a7, .ref a8])), (a1, .inl (k0, 1700, .inl f_12))] t.heap ∧ va_K (dC, dI) CL [(k0, .byte)] t ∧ va_D (va_A [(a0, .inr (9, [.ref a1, .int 8, .ref a2, .ref a3, .ref a4, .ref a5, .ref a6, .ref a7, .ref a8])), (a1, .inl (k0, 1700, .inl f0))] sz) [(a0, .inr (9, [.ref a1, .int 12, .ref a2, .ref a3, .ref a4, .ref a5, .ref a6, .ref a7, .ref a8])), (a1, .inl (k0, 1700, .inl f_12))]) (va_A [(a0, .inr (9, [.ref a1, .int 8, .ref a2, .ref a3, .ref a4, .ref a5, .ref a6, .ref a7, .ref a8])), (a1, .inl (k0, 1700, .inl f0))] sz)) 0 0 (va_A [(a0, .inr (9, [.ref a1, .int 8, .ref a2, .ref a3, .ref a4, .ref a5, .ref a6, .ref a7, .ref a8])), (a1, .inl (k0, 1700, .inl f0))] sz) := by
  refine Met.ofW (cc := cX9_putBytes) (maxL := 3) (ret := none) (by decide) rfl ?_
  intro p e s m args below meth c s₁ B hml hv
  obtain ⟨rfl, hsz, hP, hK, hD0, hC⟩ := hv
  have hx := B.exec
  have hb := B.bytes
  have hr := B.returns
  have hts0 := atoms_spec (ws := Cond.code yX9_putBytes cX9_putBytes 3 none :: TB) B.pre
  have hts : ∀ w ∈ TB, w.before _ s = true := fun w h => hts0 w (List.mem_cons_of_mem _ h)
  have hown : s.vm.findClass RX9 = some m.cls := findClass_of_methodNamed B.named
  have hlocks := B.notSynchronized
  subst hsz
  have hD := hD0.self (sz := s.heap.size)
  generalize hAe : va_A [(a0, .inr (9, [.ref a1, .int 8, .ref a2, .ref a3, .ref a4, .ref a5, .ref a6, .ref a7, .ref a8])), (a1, .inl (k0, 1700, .inl f0))] s.heap.size = A at hD hC ⊢
  have hA : ∀ q : Nat, s.heap.size ≤ q → A q := fun q h => by rw [← hAe]; exact Or.inr h
  have hl := lv_entry ([.ref a0, .int p0]) (n := 3) (Nat.le_of_ble_eq_true rfl)
  rw [lg_entry_eq]
  generalize (lg_sl ([.ref a0, .int p0]) ++ List.replicate (3 - (lg_sl ([.ref a0, .int p0])).length) Slot.unset).toArray = ls at hl ⊢
  have hl : lv_has ls 3 [(0, .ref a0), (1, .int p0)] := hl
  have hP : va_P (dC, dI) CL [(a0, .inr (9, [.ref a1, .int 8, .ref a2, .ref a3, .ref a4, .ref a5, .ref a6, .ref a7, .ref a8])), (a1, .inl (k0, 1700, .inl f0))] s.heap := hP
  obtain ⟨H, hH⟩ : ∃ z, z = s.heap := ⟨_, rfl⟩
  rw [← hH] at hP ⊢
  have hS : va_S A s.heap H [] := by rw [hH]; exact va_S.rf
  refine lv_bipush (v := 24) hx hb dX9_putBytes_0 (by decide) ?_
  refine lv_istore_n (lv' := [(2, .int 24), (0, .ref a0), (1, .int p0)]) hx hb dX9_putBytes_2 rfl hl (by decide) rfl (fun ls hl => ?_)
  refine lv_iload_n hx hb dX9_putBytes_3 rfl (lv_at hl 0 rfl) ?_
  refine lv_if_lt (tgt := 46) hx hb dX9_putBytes_4 (by decide) (fun h => absurd h (by decide)) (fun _ => ?_)
  refine lv_aload_n hx hb dX9_putBytes_7 rfl (lv_at hl 1 rfl) ?_
  refine va_get (D := (dC, dI)) (ci := 9) (v := .int 8) (C := RX9) (T := TX9) (N := 9) hx hb hts iwX9 hown hK hP 0 rfl rfl 1 (by decide) (hts _ mw_557) (fun _ h9 => h9) rfl dX9_putBytes_8 ?_
  refine lv_sipush (v := 1700) hx hb dX9_putBytes_11 (by decide) ?_
  refine lv_icmp_ge (tgt := 46) hx hb dX9_putBytes_14 (by decide) (fun h => absurd h (by decide)) (fun _ => ?_)
  refine lv_aload_n hx hb dX9_putBytes_17 rfl (lv_at hl 1 rfl) ?_
  refine va_get (D := (dC, dI)) (ci := 9) (v := .ref a1) (C := RX9) (T := TX9) (N := 9) hx hb hts iwX9 hown hK hP 0 rfl rfl 0 (by decide) (hts _ mw_556) (fun _ h9 => h9) rfl dX9_putBytes_18 ?_
  refine lv_aload_n hx hb dX9_putBytes_21 rfl (lv_at hl 1 rfl) ?_
  refine va_get (D := (dC, dI)) (ci := 9) (v := .int 8) (C := RX9) (T := TX9) (N := 9) hx hb hts iwX9 hown hK hP 0 rfl rfl 1 (by decide) (hts _ mw_557) (fun _ h9 => h9) rfl dX9_putBytes_22 ?_
  refine lv_iload_n hx hb dX9_putBytes_25 rfl (lv_at hl 2 rfl) ?_
  refine lv_iload_n hx hb dX9_putBytes_26 rfl (lv_at hl 0 rfl) ?_
  refine lv_ishr hx hb dX9_putBytes_27 ?_
  refine lv_topi (fun v_1 ev_1 => ?_)
  refine lv_i2b hx hb dX9_putBytes_28 rfl ?_
  refine lv_topi (fun v_2 ev_2 => ?_)
  refine xh_bast hx hb hK hP hD hS 1 0 rfl rfl (x_vp (k := 8) (by decide) (by decide) (by decide)) dX9_putBytes_29 (fun f_3 H locs hP hD hS => ?_)
  have hP : va_P (dC, dI) CL [(a0, .inr (9, [.ref a1, .int 8, .ref a2, .ref a3, .ref a4, .ref a5, .ref a6, .ref a7, .ref a8])), (a1, .inl (k0, 1700, .inl f_3))] H := hP
  have hD : va_D A [(a0, .inr (9, [.ref a1, .int 8, .ref a2, .ref a3, .ref a4, .ref a5, .ref a6, .ref a7, .ref a8])), (a1, .inl (k0, 1700, .inl f_3))] := hD
  refine lv_aload_n hx hb dX9_putBytes_30 rfl (lv_at hl 1 rfl) ?_
  refine lv_dup hx hb dX9_putBytes_31 rfl ?_
  refine va_get (D := (dC, dI)) (ci := 9) (v := .int 8) (C := RX9) (T := TX9) (N := 9) hx hb hts iwX9 hown hK hP 0 rfl rfl 1 (by decide) (hts _ mw_557) (fun _ h9 => h9) rfl dX9_putBytes_32 ?_
  refine lv_iconst (v := 1) hx hb dX9_putBytes_35 (by decide) ?_
  refine lv_iadd hx hb dX9_putBytes_36 ?_
  refine x_lit 9 (by decide) ?_
  refine va_put (D := (dC, dI)) (ci := 9) (v := .int 9) (ty := .int) (C := RX9) (T := TX9) (N := 9) hx hb hts iwX9 tyX9 tyX9_ok nmX9 hown hK hP hD hS 0 rfl rfl 1 (by decide) (hts _ mw_557) (fun _ h9 => h9) rfl (by decide +kernel) rfl rfl (Nat.le_of_ble_eq_true rfl) dX9_putBytes_37 (fun H locs hP hD hS => ?_)
  have hP : va_P (dC, dI) CL [(a0, .inr (9, [.ref a1, .int 9, .ref a2, .ref a3, .ref a4, .ref a5, .ref a6, .ref a7, .ref a8])), (a1, .inl (k0, 1700, .inl f_3))] H := hP
  have hD : va_D A [(a0, .inr (9, [.ref a1, .int 9, .ref a2, .ref a3, .ref a4, .ref a5, .ref a6, .ref a7, .ref a8])), (a1, .inl (k0, 1700, .inl f_3))] := hD
  refine lv_iinc (v := 16) (lv' := [(2, .int 16), (0, .ref a0), (1, .int p0)]) hx hb dX9_putBytes_40 hl (k := 0) rfl (by decide) (by decide) rfl (fun ls hl => ?_)
  refine lv_goto (tgt := 3) hx hb dX9_putBytes_43 (by decide) ?_
  refine lv_iload_n hx hb dX9_putBytes_3 rfl (lv_at hl 0 rfl) ?_
  refine lv_if_lt (tgt := 46) hx hb dX9_putBytes_4 (by decide) (fun h => absurd h (by decide)) (fun _ => ?_)
  refine lv_aload_n hx hb dX9_putBytes_7 rfl (lv_at hl 1 rfl) ?_
  refine va_get (D := (dC, dI)) (ci := 9) (v := .int 9) (C := RX9) (T := TX9) (N := 9) hx hb hts iwX9 hown hK hP 0 rfl rfl 1 (by decide) (hts _ mw_557) (fun _ h9 => h9) rfl dX9_putBytes_8 ?_
  refine lv_sipush (v := 1700) hx hb dX9_putBytes_11 (by decide) ?_
  refine lv_icmp_ge (tgt := 46) hx hb dX9_putBytes_14 (by decide) (fun h => absurd h (by decide)) (fun _ => ?_)
  refine lv_aload_n hx hb dX9_putBytes_17 rfl (lv_at hl 1 rfl) ?_
  refine va_get (D := (dC, dI)) (ci := 9) (v := .ref a1) (C := RX9) (T := TX9) (N := 9) hx hb hts iwX9 hown hK hP 0 rfl rfl 0 (by decide) (hts _ mw_556) (fun _ h9 => h9) rfl dX9_putBytes_18 ?_
  refine lv_aload_n hx hb dX9_putBytes_21 rfl (lv_at hl 1 rfl) ?_
  refine va_get (D := (dC, dI)) (ci := 9) (v := .int 9) (C := RX9) (T := TX9) (N := 9) hx hb hts iwX9 hown hK hP 0 rfl rfl 1 (by decide) (hts _ mw_557) (fun _ h9 => h9) rfl dX9_putBytes_22 ?_
  refine lv_iload_n hx hb dX9_putBytes_25 rfl (lv_at hl 2 rfl) ?_
  refine lv_iload_n hx hb dX9_putBytes_26 rfl (lv_at hl 0 rfl) ?_
  refine lv_ishr hx hb dX9_putBytes_27 ?_
  refine lv_topi (fun v_4 ev_4 => ?_)
  refine lv_i2b hx hb dX9_putBytes_28 rfl ?_
  refine lv_topi (fun v_5 ev_5 => ?_)
  refine xh_bast hx hb hK hP hD hS 1 0 rfl rfl (x_vp (k := 9) (by decide) (by decide) (by decide)) dX9_putBytes_29 (fun f_6 H locs hP hD hS => ?_)
  have hP : va_P (dC, dI) CL [(a0, .inr (9, [.ref a1, .int 9, .ref a2, .ref a3, .ref a4, .ref a5, .ref a6, .ref a7, .ref a8])), (a1, .inl (k0, 1700, .inl f_6))] H := hP
  have hD : va_D A [(a0, .inr (9, [.ref a1, .int 9, .ref a2, .ref a3, .ref a4, .ref a5, .ref a6, .ref a7, .ref a8])), (a1, .inl (k0, 1700, .inl f_6))] := hD
  refine lv_aload_n hx hb dX9_putBytes_30 rfl (lv_at hl 1 rfl) ?_
  refine lv_dup hx hb dX9_putBytes_31 rfl ?_
  refine va_get (D := (dC, dI)) (ci := 9) (v := .int 9) (C := RX9) (T := TX9) (N := 9) hx hb hts iwX9 hown hK hP 0 rfl rfl 1 (by decide) (hts _ mw_557) (fun _ h9 => h9) rfl dX9_putBytes_32 ?_
  refine lv_iconst (v := 1) hx hb dX9_putBytes_35 (by decide) ?_
  refine lv_iadd hx hb dX9_putBytes_36 ?_
  refine x_lit 10 (by decide) ?_
  refine va_put (D := (dC, dI)) (ci := 9) (v := .int 10) (ty := .int) (C := RX9) (T := TX9) (N := 9) hx hb hts iwX9 tyX9 tyX9_ok nmX9 hown hK hP hD hS 0 rfl rfl 1 (by decide) (hts _ mw_557) (fun _ h9 => h9) rfl (by decide +kernel) rfl rfl (Nat.le_of_ble_eq_true rfl) dX9_putBytes_37 (fun H locs hP hD hS => ?_)
  have hP : va_P (dC, dI) CL [(a0, .inr (9, [.ref a1, .int 10, .ref a2, .ref a3, .ref a4, .ref a5, .ref a6, .ref a7, .ref a8])), (a1, .inl (k0, 1700, .inl f_6))] H := hP
  have hD : va_D A [(a0, .inr (9, [.ref a1, .int 10, .ref a2, .ref a3, .ref a4, .ref a5, .ref a6, .ref a7, .ref a8])), (a1, .inl (k0, 1700, .inl f_6))] := hD
  refine lv_iinc (v := 8) (lv' := [(2, .int 8), (0, .ref a0), (1, .int p0)]) hx hb dX9_putBytes_40 hl (k := 0) rfl (by decide) (by decide) rfl (fun ls hl => ?_)
  refine lv_goto (tgt := 3) hx hb dX9_putBytes_43 (by decide) ?_
  refine lv_iload_n hx hb dX9_putBytes_3 rfl (lv_at hl 0 rfl) ?_
  refine lv_if_lt (tgt := 46) hx hb dX9_putBytes_4 (by decide) (fun h => absurd h (by decide)) (fun _ => ?_)
  refine lv_aload_n hx hb dX9_putBytes_7 rfl (lv_at hl 1 rfl) ?_
  refine va_get (D := (dC, dI)) (ci := 9) (v := .int 10) (C := RX9) (T := TX9) (N := 9) hx hb hts iwX9 hown hK hP 0 rfl rfl 1 (by decide) (hts _ mw_557) (fun _ h9 => h9) rfl dX9_putBytes_8 ?_
  refine lv_sipush (v := 1700) hx hb dX9_putBytes_11 (by decide) ?_
  refine lv_icmp_ge (tgt := 46) hx hb dX9_putBytes_14 (by decide) (fun h => absurd h (by decide)) (fun _ => ?_)
  refine lv_aload_n hx hb dX9_putBytes_17 rfl (lv_at hl 1 rfl) ?_
  refine va_get (D := (dC, dI)) (ci := 9) (v := .ref a1) (C := RX9) (T := TX9) (N := 9) hx hb hts iwX9 hown hK hP 0 rfl rfl 0 (by decide) (hts _ mw_556) (fun _ h9 => h9) rfl dX9_putBytes_18 ?_
  refine lv_aload_n hx hb dX9_putBytes_21 rfl (lv_at hl 1 rfl) ?_
  refine va_get (D := (dC, dI)) (ci := 9) (v := .int 10) (C := RX9) (T := TX9) (N := 9) hx hb hts iwX9 hown hK hP 0 rfl rfl 1 (by decide) (hts _ mw_557) (fun _ h9 => h9) rfl dX9_putBytes_22 ?_
  refine lv_iload_n hx hb dX9_putBytes_25 rfl (lv_at hl 2 rfl) ?_
  refine lv_iload_n hx hb dX9_putBytes_26 rfl (lv_at hl 0 rfl) ?_
  refine lv_ishr hx hb dX9_putBytes_27 ?_
  refine lv_topi (fun v_7 ev_7 => ?_)
  refine lv_i2b hx hb dX9_putBytes_28 rfl ?_
  refine lv_topi (fun v_8 ev_8 => ?_)
  refine xh_bast hx hb hK hP hD hS 1 0 rfl rfl (x_vp (k := 10) (by decide) (by decide) (by decide)) dX9_putBytes_29 (fun f_9 H locs hP hD hS => ?_)
  have hP : va_P (dC, dI) CL [(a0, .inr (9, [.ref a1, .int 10, .ref a2, .ref a3, .ref a4, .ref a5, .ref a6, .ref a7, .ref a8])), (a1, .inl (k0, 1700, .inl f_9))] H := hP
  have hD : va_D A [(a0, .inr (9, [.ref a1, .int 10, .ref a2, .ref a3, .ref a4, .ref a5, .ref a6, .ref a7, .ref a8])), (a1, .inl (k0, 1700, .inl f_9))] := hD
  refine lv_aload_n hx hb dX9_putBytes_30 rfl (lv_at hl 1 rfl) ?_
  refine lv_dup hx hb dX9_putBytes_31 rfl ?_
  refine va_get (D := (dC, dI)) (ci := 9) (v := .int 10) (C := RX9) (T := TX9) (N := 9) hx hb hts iwX9 hown hK hP 0 rfl rfl 1 (by decide) (hts _ mw_557) (fun _ h9 => h9) rfl dX9_putBytes_32 ?_
  refine lv_iconst (v := 1) hx hb dX9_putBytes_35 (by decide) ?_
  refine lv_iadd hx hb dX9_putBytes_36 ?_
  refine x_lit 11 (by decide) ?_
  refine va_put (D := (dC, dI)) (ci := 9) (v := .int 11) (ty := .int) (C := RX9) (T := TX9) (N := 9) hx hb hts iwX9 tyX9 tyX9_ok nmX9 hown hK hP hD hS 0 rfl rfl 1 (by decide) (hts _ mw_557) (fun _ h9 => h9) rfl (by decide +kernel) rfl rfl (Nat.le_of_ble_eq_true rfl) dX9_putBytes_37 (fun H locs hP hD hS => ?_)
  have hP : va_P (dC, dI) CL [(a0, .inr (9, [.ref a1, .int 11, .ref a2, .ref a3, .ref a4, .ref a5, .ref a6, .ref a7, .ref a8])), (a1, .inl (k0, 1700, .inl f_9))] H := hP
  have hD : va_D A [(a0, .inr (9, [.ref a1, .int 11, .ref a2, .ref a3, .ref a4, .ref a5, .ref a6, .ref a7, .ref a8])), (a1, .inl (k0, 1700, .inl f_9))] := hD
  refine lv_iinc (v := 0) (lv' := [(2, .int 0), (0, .ref a0), (1, .int p0)]) hx hb dX9_putBytes_40 hl (k := 0) rfl (by decide) (by decide) rfl (fun ls hl => ?_)
  refine lv_goto (tgt := 3) hx hb dX9_putBytes_43 (by decide) ?_
  refine lv_iload_n hx hb dX9_putBytes_3 rfl (lv_at hl 0 rfl) ?_
  refine lv_if_lt (tgt := 46) hx hb dX9_putBytes_4 (by decide) (fun h => absurd h (by decide)) (fun _ => ?_)
  refine lv_aload_n hx hb dX9_putBytes_7 rfl (lv_at hl 1 rfl) ?_
  refine va_get (D := (dC, dI)) (ci := 9) (v := .int 11) (C := RX9) (T := TX9) (N := 9) hx hb hts iwX9 hown hK hP 0 rfl rfl 1 (by decide) (hts _ mw_557) (fun _ h9 => h9) rfl dX9_putBytes_8 ?_
  refine lv_sipush (v := 1700) hx hb dX9_putBytes_11 (by decide) ?_
  refine lv_icmp_ge (tgt := 46) hx hb dX9_putBytes_14 (by decide) (fun h => absurd h (by decide)) (fun _ => ?_)
  refine lv_aload_n hx hb dX9_putBytes_17 rfl (lv_at hl 1 rfl) ?_
  refine va_get (D := (dC, dI)) (ci := 9) (v := .ref a1) (C := RX9) (T := TX9) (N := 9) hx hb hts iwX9 hown hK hP 0 rfl rfl 0 (by decide) (hts _ mw_556) (fun _ h9 => h9) rfl dX9_putBytes_18 ?_
  refine lv_aload_n hx hb dX9_putBytes_21 rfl (lv_at hl 1 rfl) ?_
  refine va_get (D := (dC, dI)) (ci := 9) (v := .int 11) (C := RX9) (T := TX9) (N := 9) hx hb hts iwX9 hown hK hP 0 rfl rfl 1 (by decide) (hts _ mw_557) (fun _ h9 => h9) rfl dX9_putBytes_22 ?_
  refine lv_iload_n hx hb dX9_putBytes_25 rfl (lv_at hl 2 rfl) ?_
  refine lv_iload_n hx hb dX9_putBytes_26 rfl (lv_at hl 0 rfl) ?_
  refine lv_ishr hx hb dX9_putBytes_27 ?_
  refine lv_topi (fun v_10 ev_10 => ?_)
  refine lv_i2b hx hb dX9_putBytes_28 rfl ?_
  refine lv_topi (fun v_11 ev_11 => ?_)
  refine xh_bast hx hb hK hP hD hS 1 0 rfl rfl (x_vp (k := 11) (by decide) (by decide) (by decide)) dX9_putBytes_29 (fun f_12 H locs hP hD hS => ?_)
  have hP : va_P (dC, dI) CL [(a0, .inr (9, [.ref a1, .int 11, .ref a2, .ref a3, .ref a4, .ref a5, .ref a6, .ref a7, .ref a8])), (a1, .inl (k0, 1700, .inl f_12))] H := hP
  have hD : va_D A [(a0, .inr (9, [.ref a1, .int 11, .ref a2, .ref a3, .ref a4, .ref a5, .ref a6, .ref a7, .ref a8])), (a1, .inl (k0, 1700, .inl f_12))] := hD
  refine lv_aload_n hx hb dX9_putBytes_30 rfl (lv_at hl 1 rfl) ?_
  refine lv_dup hx hb dX9_putBytes_31 rfl ?_
  refine va_get (D := (dC, dI)) (ci := 9) (v := .int 11) (C := RX9) (T := TX9) (N := 9) hx hb hts iwX9 hown hK hP 0 rfl rfl 1 (by decide) (hts _ mw_557) (fun _ h9 => h9) rfl dX9_putBytes_32 ?_
  refine lv_iconst (v := 1) hx hb dX9_putBytes_35 (by decide) ?_
  refine lv_iadd hx hb dX9_putBytes_36 ?_
  refine x_lit 12 (by decide) ?_
  refine va_put (D := (dC, dI)) (ci := 9) (v := .int 12) (ty := .int) (C := RX9) (T := TX9) (N := 9) hx hb hts iwX9 tyX9 tyX9_ok nmX9 hown hK hP hD hS 0 rfl rfl 1 (by decide) (hts _ mw_557) (fun _ h9 => h9) rfl (by decide +kernel) rfl rfl (Nat.le_of_ble_eq_true rfl) dX9_putBytes_37 (fun H locs hP hD hS => ?_)
  have hP : va_P (dC, dI) CL [(a0, .inr (9, [.ref a1, .int 12, .ref a2, .ref a3, .ref a4, .ref a5, .ref a6, .ref a7, .ref a8])), (a1, .inl (k0, 1700, .inl f_12))] H := hP
  have hD : va_D A [(a0, .inr (9, [.ref a1, .int 12, .ref a2, .ref a3, .ref a4, .ref a5, .ref a6, .ref a7, .ref a8])), (a1, .inl (k0, 1700, .inl f_12))] := hD
  refine lv_iinc (v := (-8)) (lv' := [(2, .int (-8)), (0, .ref a0), (1, .int p0)]) hx hb dX9_putBytes_40 hl (k := 0) rfl (by decide) (by decide) rfl (fun ls hl => ?_)
  refine lv_goto (tgt := 3) hx hb dX9_putBytes_43 (by decide) ?_
  refine lv_iload_n hx hb dX9_putBytes_3 rfl (lv_at hl 0 rfl) ?_
  refine lv_if_lt (tgt := 46) hx hb dX9_putBytes_4 (by decide) (fun _ => ?_) (fun h => (h (by decide)).elim)
  refine W.widen (k := 0) (n := 0) (Nat.le_of_ble_eq_true rfl) (Nat.le_of_ble_eq_true rfl) ?_
  have hP9 := hP.sub (ws' := [(a0, .inr (9, [.ref a1, .int 12, .ref a2, .ref a3, .ref a4, .ref a5, .ref a6, .ref a7, .ref a8])), (a1, .inl (k0, 1700, .inl f_12))]) [0, 1] rfl
  have hD9 := hD.sub (ws' := [(a0, .inr (9, [.ref a1, .int 12, .ref a2, .ref a3, .ref a4, .ref a5, .ref a6, .ref a7, .ref a8])), (a1, .inl (k0, 1700, .inl f_12))]) [0, 1] (by decide) rfl
  have hK9 := hK.sub (tys' := [(k0, .byte)]) [0] rfl
  exact W.vret hx hb hr (fun t ht hW => ⟨⟨(), rfl, trivial, f_12, by rw [ht]; exact hP9, va_K.moved hW.alike hK9, hD9⟩, hS.F ht⟩) hS.2.2 dX9_putBytes_46
set_option maxHeartbeats 4000000 in
set_option maxRecDepth 100000 in
theorem zX9_putBytes_4 (l : Launch) (dC : Nat → ClassId) (dI : Nat → Nat → Nat) (adK adV : Nat → Nat) (sz : Nat) (a0 : Nat) (p0 : Int32) (a1 : Nat) (a2 : Nat) (a3 : Nat) (a4 : Nat) (a5 : Nat) (a6 : Nat) (a7 : Nat) (a8 : Nat) (k0 : ClassId) (f0 : Nat → Int32) : Met l yX9_putBytes (Cond.code yX9_putBytes cX9_putBytes 3 none :: TB) ({ frames := 1, cells := 0, slots := 0, locals := 100 }) (XP (dC, dI) adK adV [.ref a0, .int p0] sz [(a0, .inr (9, [.ref a1, .int 12, .ref a2, .ref a3, .ref a4, .ref a5, .ref a6, .ref a7, .ref a8])), (a1, .inl (k0, 1700, .inl f0))] [(k0, .byte)]) (va_Qv (fun _ : Unit => True) (fun _ t => ∃ f_12 : Nat → Int32, va_P (dC, dI) CL [(a0, .inr (9, [.ref a1, .int 16, .ref a2, .ref a3, .ref a4, .ref a5, .ref a6, .ref a7, .ref a8])), (a1, .inl (k0, 1700, .inl f_12))] t.heap ∧ va_K (dC, dI) CL [(k0, .byte)] t ∧ va_D (va_A [(a0, .inr (9, [.ref a1, .int 12, .ref a2, .ref a3, .ref a4, .ref a5, .ref a6, .ref a7, .ref a8])), (a1, .inl (k0, 1700, .inl f0))] sz) [(a0, .inr (9, [.ref a1, .int 16, .ref a2, .ref a3, .ref a4, .ref a5, .ref a6, .ref a7, .ref a8])), (a1, .inl (k0, 1700, .inl f_12))]) (va_A [(a0, .inr (9, [.ref a1, .int 12, .ref a2, .ref a3, .ref a4, .ref a5, .ref a6, .ref a7, .ref a8])), (a1, .inl (k0, 1700, .inl f0))] sz)) 0 0 (va_A [(a0, .inr (9, [.ref a1, .int 12, .ref a2, .ref a3, .ref a4, .ref a5, .ref a6, .ref a7, .ref a8])), (a1, .inl (k0, 1700, .inl f0))] sz) := by
  refine Met.ofW (cc := cX9_putBytes) (maxL := 3) (ret := none) (by decide) rfl ?_
  intro p e s m args below meth c s₁ B hml hv
  obtain ⟨rfl, hsz, hP, hK, hD0, hC⟩ := hv
  have hx := B.exec
  have hb := B.bytes
  have hr := B.returns
  have hts0 := atoms_spec (ws := Cond.code yX9_putBytes cX9_putBytes 3 none :: TB) B.pre
  have hts : ∀ w ∈ TB, w.before _ s = true := fun w h => hts0 w (List.mem_cons_of_mem _ h)
  have hown : s.vm.findClass RX9 = some m.cls := findClass_of_methodNamed B.named
  have hlocks := B.notSynchronized
  subst hsz
  have hD := hD0.self (sz := s.heap.size)
  generalize hAe : va_A [(a0, .inr (9, [.ref a1, .int 12, .ref a2, .ref a3, .ref a4, .ref a5, .ref a6, .ref a7, .ref a8])), (a1, .inl (k0, 1700, .inl f0))] s.heap.size = A at hD hC ⊢
  have hA : ∀ q : Nat, s.heap.size ≤ q → A q := fun q h => by rw [← hAe]; exact Or.inr h
  have hl := lv_entry ([.ref a0, .int p0]) (n := 3) (Nat.le_of_ble_eq_true rfl)
  rw [lg_entry_eq]
  generalize (lg_sl ([.ref a0, .int p0]) ++ List.replicate (3 - (lg_sl ([.ref a0, .int p0])).length) Slot.unset).toArray = ls at hl ⊢
  have hl : lv_has ls 3 [(0, .ref a0), (1, .int p0)] := hl
  have hP : va_P (dC, dI) CL [(a0, .inr (9, [.ref a1, .int 12, .ref a2, .ref a3, .ref a4, .ref a5, .ref a6, .ref a7, .ref a8])), (a1, .inl (k0, 1700, .inl f0))] s.heap := hP
  obtain ⟨H, hH⟩ : ∃ z, z = s.heap := ⟨_, rfl⟩
  rw [← hH] at hP ⊢
  have hS : va_S A s.heap H [] := by rw [hH]; exact va_S.rf
  refine lv_bipush (v := 24) hx hb dX9_putBytes_0 (by decide) ?_
  refine lv_istore_n (lv' := [(2, .int 24), (0, .ref a0), (1, .int p0)]) hx hb dX9_putBytes_2 rfl hl (by decide) rfl (fun ls hl => ?_)
  refine lv_iload_n hx hb dX9_putBytes_3 rfl (lv_at hl 0 rfl) ?_
  refine lv_if_lt (tgt := 46) hx hb dX9_putBytes_4 (by decide) (fun h => absurd h (by decide)) (fun _ => ?_)
  refine lv_aload_n hx hb dX9_putBytes_7 rfl (lv_at hl 1 rfl) ?_
  refine va_get (D := (dC, dI)) (ci := 9) (v := .int 12) (C := RX9) (T := TX9) (N := 9) hx hb hts iwX9 hown hK hP 0 rfl rfl 1 (by decide) (hts _ mw_557) (fun _ h9 => h9) rfl dX9_putBytes_8 ?_
  refine lv_sipush (v := 1700) hx hb dX9_putBytes_11 (by decide) ?_
  refine lv_icmp_ge (tgt := 46) hx hb dX9_putBytes_14 (by decide) (fun h => absurd h (by decide)) (fun _ => ?_)
  refine lv_aload_n hx hb dX9_putBytes_17 rfl (lv_at hl 1 rfl) ?_
  refine va_get (D := (dC, dI)) (ci := 9) (v := .ref a1) (C := RX9) (T := TX9) (N := 9) hx hb hts iwX9 hown hK hP 0 rfl rfl 0 (by decide) (hts _ mw_556) (fun _ h9 => h9) rfl dX9_putBytes_18 ?_
  refine lv_aload_n hx hb dX9_putBytes_21 rfl (lv_at hl 1 rfl) ?_
  refine va_get (D := (dC, dI)) (ci := 9) (v := .int 12) (C := RX9) (T := TX9) (N := 9) hx hb hts iwX9 hown hK hP 0 rfl rfl 1 (by decide) (hts _ mw_557) (fun _ h9 => h9) rfl dX9_putBytes_22 ?_
  refine lv_iload_n hx hb dX9_putBytes_25 rfl (lv_at hl 2 rfl) ?_
  refine lv_iload_n hx hb dX9_putBytes_26 rfl (lv_at hl 0 rfl) ?_
  refine lv_ishr hx hb dX9_putBytes_27 ?_
  refine lv_topi (fun v_1 ev_1 => ?_)
  refine lv_i2b hx hb dX9_putBytes_28 rfl ?_
  refine lv_topi (fun v_2 ev_2 => ?_)
  refine xh_bast hx hb hK hP hD hS 1 0 rfl rfl (x_vp (k := 12) (by decide) (by decide) (by decide)) dX9_putBytes_29 (fun f_3 H locs hP hD hS => ?_)
  have hP : va_P (dC, dI) CL [(a0, .inr (9, [.ref a1, .int 12, .ref a2, .ref a3, .ref a4, .ref a5, .ref a6, .ref a7, .ref a8])), (a1, .inl (k0, 1700, .inl f_3))] H := hP
  have hD : va_D A [(a0, .inr (9, [.ref a1, .int 12, .ref a2, .ref a3, .ref a4, .ref a5, .ref a6, .ref a7, .ref a8])), (a1, .inl (k0, 1700, .inl f_3))] := hD
  refine lv_aload_n hx hb dX9_putBytes_30 rfl (lv_at hl 1 rfl) ?_
  refine lv_dup hx hb dX9_putBytes_31 rfl ?_
  refine va_get (D := (dC, dI)) (ci := 9) (v := .int 12) (C := RX9) (T := TX9) (N := 9) hx hb hts iwX9 hown hK hP 0 rfl rfl 1 (by decide) (hts _ mw_557) (fun _ h9 => h9) rfl dX9_putBytes_32 ?_
  refine lv_iconst (v := 1) hx hb dX9_putBytes_35 (by decide) ?_
  refine lv_iadd hx hb dX9_putBytes_36 ?_
  refine x_lit 13 (by decide) ?_
  refine va_put (D := (dC, dI)) (ci := 9) (v := .int 13) (ty := .int) (C := RX9) (T := TX9) (N := 9) hx hb hts iwX9 tyX9 tyX9_ok nmX9 hown hK hP hD hS 0 rfl rfl 1 (by decide) (hts _ mw_557) (fun _ h9 => h9) rfl (by decide +kernel) rfl rfl (Nat.le_of_ble_eq_true rfl) dX9_putBytes_37 (fun H locs hP hD hS => ?_)
  have hP : va_P (dC, dI) CL [(a0, .inr (9, [.ref a1, .int 13, .ref a2, .ref a3, .ref a4, .ref a5, .ref a6, .ref a7, .ref a8])), (a1, .inl (k0, 1700, .inl f_3))] H := hP
  have hD : va_D A [(a0, .inr (9, [.ref a1, .int 13, .ref a2, .ref a3, .ref a4, .ref a5, .ref a6, .ref a7, .ref a8])), (a1, .inl (k0, 1700, .inl f_3))] := hD
  refine lv_iinc (v := 16) (lv' := [(2, .int 16), (0, .ref a0), (1, .int p0)]) hx hb dX9_putBytes_40 hl (k := 0) rfl (by decide) (by decide) rfl (fun ls hl => ?_)
  refine lv_goto (tgt := 3) hx hb dX9_putBytes_43 (by decide) ?_
  refine lv_iload_n hx hb dX9_putBytes_3 rfl (lv_at hl 0 rfl) ?_
  refine lv_if_lt (tgt := 46) hx hb dX9_putBytes_4 (by decide) (fun h => absurd h (by decide)) (fun _ => ?_)
  refine lv_aload_n hx hb dX9_putBytes_7 rfl (lv_at hl 1 rfl) ?_
  refine va_get (D := (dC, dI)) (ci := 9) (v := .int 13) (C := RX9) (T := TX9) (N := 9) hx hb hts iwX9 hown hK hP 0 rfl rfl 1 (by decide) (hts _ mw_557) (fun _ h9 => h9) rfl dX9_putBytes_8 ?_
  refine lv_sipush (v := 1700) hx hb dX9_putBytes_11 (by decide) ?_
  refine lv_icmp_ge (tgt := 46) hx hb dX9_putBytes_14 (by decide) (fun h => absurd h (by decide)) (fun _ => ?_)
  refine lv_aload_n hx hb dX9_putBytes_17 rfl (lv_at hl 1 rfl) ?_
  refine va_get (D := (dC, dI)) (ci := 9) (v := .ref a1) (C := RX9) (T := TX9) (N := 9) hx hb hts iwX9 hown hK hP 0 rfl rfl 0 (by decide) (hts _ mw_556) (fun _ h9 => h9) rfl dX9_putBytes_18 ?_
  refine lv_aload_n hx hb dX9_putBytes_21 rfl (lv_at hl 1 rfl) ?_
  refine va_get (D := (dC, dI)) (ci := 9) (v := .int 13) (C := RX9) (T := TX9) (N := 9) hx hb hts iwX9 hown hK hP 0 rfl rfl 1 (by decide) (hts _ mw_557) (fun _ h9 => h9) rfl dX9_putBytes_22 ?_
  refine lv_iload_n hx hb dX9_putBytes_25 rfl (lv_at hl 2 rfl) ?_
  refine lv_iload_n hx hb dX9_putBytes_26 rfl (lv_at hl 0 rfl) ?_
  refine lv_ishr hx hb dX9_putBytes_27 ?_
  refine lv_topi (fun v_4 ev_4 => ?_)
  refine lv_i2b hx hb dX9_putBytes_28 rfl ?_
  refine lv_topi (fun v_5 ev_5 => ?_)
  refine xh_bast hx hb hK hP hD hS 1 0 rfl rfl (x_vp (k := 13) (by decide) (by decide) (by decide)) dX9_putBytes_29 (fun f_6 H locs hP hD hS => ?_)
  have hP : va_P (dC, dI) CL [(a0, .inr (9, [.ref a1, .int 13, .ref a2, .ref a3, .ref a4, .ref a5, .ref a6, .ref a7, .ref a8])), (a1, .inl (k0, 1700, .inl f_6))] H := hP
  have hD : va_D A [(a0, .inr (9, [.ref a1, .int 13, .ref a2, .ref a3, .ref a4, .ref a5, .ref a6, .ref a7, .ref a8])), (a1, .inl (k0, 1700, .inl f_6))] := hD
  refine lv_aload_n hx hb dX9_putBytes_30 rfl (lv_at hl 1 rfl) ?_
  refine lv_dup hx hb dX9_putBytes_31 rfl ?_
  refine va_get (D := (dC, dI)) (ci := 9) (v := .int 13) (C := RX9) (T := TX9) (N := 9) hx hb hts iwX9 hown hK hP 0 rfl rfl 1 (by decide) (hts _ mw_557) (fun _ h9 => h9) rfl dX9_putBytes_32 ?_
  refine lv_iconst (v := 1) hx hb dX9_putBytes_35 (by decide) ?_
  refine lv_iadd hx hb dX9_putBytes_36 ?_
  refine x_lit 14 (by decide) ?_
  refine va_put (D := (dC, dI)) (ci := 9) (v := .int 14) (ty := .int) (C := RX9) (T := TX9) (N := 9) hx hb hts iwX9 tyX9 tyX9_ok nmX9 hown hK hP hD hS 0 rfl rfl 1 (by decide) (hts _ mw_557) (fun _ h9 => h9) rfl (by decide +kernel) rfl rfl (Nat.le_of_ble_eq_true rfl) dX9_putBytes_37 (fun H locs hP hD hS => ?_)
  have hP : va_P (dC, dI) CL [(a0, .inr (9, [.ref a1, .int 14, .ref a2, .ref a3, .ref a4, .ref a5, .ref a6, .ref a7, .ref a8])), (a1, .inl (k0, 1700, .inl f_6))] H := hP
  have hD : va_D A [(a0, .inr (9, [.ref a1, .int 14, .ref a2, .ref a3, .ref a4, .ref a5, .ref a6, .ref a7, .ref a8])), (a1, .inl (k0, 1700, .inl f_6))] := hD
  refine lv_iinc (v := 8) (lv' := [(2, .int 8), (0, .ref a0), (1, .int p0)]) hx hb dX9_putBytes_40 hl (k := 0) rfl (by decide) (by decide) rfl (fun ls hl => ?_)
  refine lv_goto (tgt := 3) hx hb dX9_putBytes_43 (by decide) ?_
  refine lv_iload_n hx hb dX9_putBytes_3 rfl (lv_at hl 0 rfl) ?_
  refine lv_if_lt (tgt := 46) hx hb dX9_putBytes_4 (by decide) (fun h => absurd h (by decide)) (fun _ => ?_)
  refine lv_aload_n hx hb dX9_putBytes_7 rfl (lv_at hl 1 rfl) ?_
  refine va_get (D := (dC, dI)) (ci := 9) (v := .int 14) (C := RX9) (T := TX9) (N := 9) hx hb hts iwX9 hown hK hP 0 rfl rfl 1 (by decide) (hts _ mw_557) (fun _ h9 => h9) rfl dX9_putBytes_8 ?_
  refine lv_sipush (v := 1700) hx hb dX9_putBytes_11 (by decide) ?_
  refine lv_icmp_ge (tgt := 46) hx hb dX9_putBytes_14 (by decide) (fun h => absurd h (by decide)) (fun _ => ?_)
  refine lv_aload_n hx hb dX9_putBytes_17 rfl (lv_at hl 1 rfl) ?_
  refine va_get (D := (dC, dI)) (ci := 9) (v := .ref a1) (C := RX9) (T := TX9) (N := 9) hx hb hts iwX9 hown hK hP 0 rfl rfl 0 (by decide) (hts _ mw_556) (fun _ h9 => h9) rfl dX9_putBytes_18 ?_
  refine lv_aload_n hx hb dX9_putBytes_21 rfl (lv_at hl 1 rfl) ?_
  refine va_get (D := (dC, dI)) (ci := 9) (v := .int 14) (C := RX9) (T := TX9) (N := 9) hx hb hts iwX9 hown hK hP 0 rfl rfl 1 (by decide) (hts _ mw_557) (fun _ h9 => h9) rfl dX9_putBytes_22 ?_
  refine lv_iload_n hx hb dX9_putBytes_25 rfl (lv_at hl 2 rfl) ?_
  refine lv_iload_n hx hb dX9_putBytes_26 rfl (lv_at hl 0 rfl) ?_
  refine lv_ishr hx hb dX9_putBytes_27 ?_
  refine lv_topi (fun v_7 ev_7 => ?_)
  refine lv_i2b hx hb dX9_putBytes_28 rfl ?_
  refine lv_topi (fun v_8 ev_8 => ?_)
  refine xh_bast hx hb hK hP hD hS 1 0 rfl rfl (x_vp (k := 14) (by decide) (by decide) (by decide)) dX9_putBytes_29 (fun f_9 H locs hP hD hS => ?_)
  have hP : va_P (dC, dI) CL [(a0, .inr (9, [.ref a1, .int 14, .ref a2, .ref a3, .ref a4, .ref a5, .ref a6, .ref a7, .ref a8])), (a1, .inl (k0, 1700, .inl f_9))] H := hP
  have hD : va_D A [(a0, .inr (9, [.ref a1, .int 14, .ref a2, .ref a3, .ref a4, .ref a5, .ref a6, .ref a7, .ref a8])), (a1, .inl (k0, 1700, .inl f_9))] := hD
  refine lv_aload_n hx hb dX9_putBytes_30 rfl (lv_at hl 1 rfl) ?_
  refine lv_dup hx hb dX9_putBytes_31 rfl ?_
  refine va_get (D := (dC, dI)) (ci := 9) (v := .int 14) (C := RX9) (T := TX9) (N := 9) hx hb hts iwX9 hown hK hP 0 rfl rfl 1 (by decide) (hts _ mw_557) (fun _ h9 => h9) rfl dX9_putBytes_32 ?_
  refine lv_iconst (v := 1) hx hb dX9_putBytes_35 (by decide) ?_
  refine lv_iadd hx hb dX9_putBytes_36 ?_
  refine x_lit 15 (by decide) ?_
  refine va_put (D := (dC, dI)) (ci := 9) (v := .int 15) (ty := .int) (C := RX9) (T := TX9) (N := 9) hx hb hts iwX9 tyX9 tyX9_ok nmX9 hown hK hP hD hS 0 rfl rfl 1 (by decide) (hts _ mw_557) (fun _ h9 => h9) rfl (by decide +kernel) rfl rfl (Nat.le_of_ble_eq_true rfl) dX9_putBytes_37 (fun H locs hP hD hS => ?_)
  have hP : va_P (dC, dI) CL [(a0, .inr (9, [.ref a1, .int 15, .ref a2, .ref a3, .ref a4, .ref a5, .ref a6, .ref a7, .ref a8])), (a1, .inl (k0, 1700, .inl f_9))] H := hP
  have hD : va_D A [(a0, .inr (9, [.ref a1, .int 15, .ref a2, .ref a3, .ref a4, .ref a5, .ref a6, .ref a7, .ref a8])), (a1, .inl (k0, 1700, .inl f_9))] := hD
  refine lv_iinc (v := 0) (lv' := [(2, .int 0), (0, .ref a0), (1, .int p0)]) hx hb dX9_putBytes_40 hl (k := 0) rfl (by decide) (by decide) rfl (fun ls hl => ?_)
  refine lv_goto (tgt := 3) hx hb dX9_putBytes_43 (by decide) ?_
  refine lv_iload_n hx hb dX9_putBytes_3 rfl (lv_at hl 0 rfl) ?_
  refine lv_if_lt (tgt := 46) hx hb dX9_putBytes_4 (by decide) (fun h => absurd h (by decide)) (fun _ => ?_)
  refine lv_aload_n hx hb dX9_putBytes_7 rfl (lv_at hl 1 rfl) ?_
  refine va_get (D := (dC, dI)) (ci := 9) (v := .int 15) (C := RX9) (T := TX9) (N := 9) hx hb hts iwX9 hown hK hP 0 rfl rfl 1 (by decide) (hts _ mw_557) (fun _ h9 => h9) rfl dX9_putBytes_8 ?_
  refine lv_sipush (v := 1700) hx hb dX9_putBytes_11 (by decide) ?_
  refine lv_icmp_ge (tgt := 46) hx hb dX9_putBytes_14 (by decide) (fun h => absurd h (by decide)) (fun _ => ?_)
  refine lv_aload_n hx hb dX9_putBytes_17 rfl (lv_at hl 1 rfl) ?_
  refine va_get (D := (dC, dI)) (ci := 9) (v := .ref a1) (C := RX9) (T := TX9) (N := 9) hx hb hts iwX9 hown hK hP 0 rfl rfl 0 (by decide) (hts _ mw_556) (fun _ h9 => h9) rfl dX9_putBytes_18 ?_
  refine lv_aload_n hx hb dX9_putBytes_21 rfl (lv_at hl 1 rfl) ?_
  refine va_get (D := (dC, dI)) (ci := 9) (v := .int 15) (C := RX9) (T := TX9) (N := 9) hx hb hts iwX9 hown hK hP 0 rfl rfl 1 (by decide) (hts _ mw_557) (fun _ h9 => h9) rfl dX9_putBytes_22 ?_
  refine lv_iload_n hx hb dX9_putBytes_25 rfl (lv_at hl 2 rfl) ?_
  refine lv_iload_n hx hb dX9_putBytes_26 rfl (lv_at hl 0 rfl) ?_
  refine lv_ishr hx hb dX9_putBytes_27 ?_
  refine lv_topi (fun v_10 ev_10 => ?_)
  refine lv_i2b hx hb dX9_putBytes_28 rfl ?_
  refine lv_topi (fun v_11 ev_11 => ?_)
  refine xh_bast hx hb hK hP hD hS 1 0 rfl rfl (x_vp (k := 15) (by decide) (by decide) (by decide)) dX9_putBytes_29 (fun f_12 H locs hP hD hS => ?_)
  have hP : va_P (dC, dI) CL [(a0, .inr (9, [.ref a1, .int 15, .ref a2, .ref a3, .ref a4, .ref a5, .ref a6, .ref a7, .ref a8])), (a1, .inl (k0, 1700, .inl f_12))] H := hP
  have hD : va_D A [(a0, .inr (9, [.ref a1, .int 15, .ref a2, .ref a3, .ref a4, .ref a5, .ref a6, .ref a7, .ref a8])), (a1, .inl (k0, 1700, .inl f_12))] := hD
  refine lv_aload_n hx hb dX9_putBytes_30 rfl (lv_at hl 1 rfl) ?_
  refine lv_dup hx hb dX9_putBytes_31 rfl ?_
  refine va_get (D := (dC, dI)) (ci := 9) (v := .int 15) (C := RX9) (T := TX9) (N := 9) hx hb hts iwX9 hown hK hP 0 rfl rfl 1 (by decide) (hts _ mw_557) (fun _ h9 => h9) rfl dX9_putBytes_32 ?_
  refine lv_iconst (v := 1) hx hb dX9_putBytes_35 (by decide) ?_
  refine lv_iadd hx hb dX9_putBytes_36 ?_
  refine x_lit 16 (by decide) ?_
  refine va_put (D := (dC, dI)) (ci := 9) (v := .int 16) (ty := .int) (C := RX9) (T := TX9) (N := 9) hx hb hts iwX9 tyX9 tyX9_ok nmX9 hown hK hP hD hS 0 rfl rfl 1 (by decide) (hts _ mw_557) (fun _ h9 => h9) rfl (by decide +kernel) rfl rfl (Nat.le_of_ble_eq_true rfl) dX9_putBytes_37 (fun H locs hP hD hS => ?_)
  have hP : va_P (dC, dI) CL [(a0, .inr (9, [.ref a1, .int 16, .ref a2, .ref a3, .ref a4, .ref a5, .ref a6, .ref a7, .ref a8])), (a1, .inl (k0, 1700, .inl f_12))] H := hP
  have hD : va_D A [(a0, .inr (9, [.ref a1, .int 16, .ref a2, .ref a3, .ref a4, .ref a5, .ref a6, .ref a7, .ref a8])), (a1, .inl (k0, 1700, .inl f_12))] := hD
  refine lv_iinc (v := (-8)) (lv' := [(2, .int (-8)), (0, .ref a0), (1, .int p0)]) hx hb dX9_putBytes_40 hl (k := 0) rfl (by decide) (by decide) rfl (fun ls hl => ?_)
  refine lv_goto (tgt := 3) hx hb dX9_putBytes_43 (by decide) ?_
  refine lv_iload_n hx hb dX9_putBytes_3 rfl (lv_at hl 0 rfl) ?_
  refine lv_if_lt (tgt := 46) hx hb dX9_putBytes_4 (by decide) (fun _ => ?_) (fun h => (h (by decide)).elim)
  refine W.widen (k := 0) (n := 0) (Nat.le_of_ble_eq_true rfl) (Nat.le_of_ble_eq_true rfl) ?_
  have hP9 := hP.sub (ws' := [(a0, .inr (9, [.ref a1, .int 16, .ref a2, .ref a3, .ref a4, .ref a5, .ref a6, .ref a7, .ref a8])), (a1, .inl (k0, 1700, .inl f_12))]) [0, 1] rfl
  have hD9 := hD.sub (ws' := [(a0, .inr (9, [.ref a1, .int 16, .ref a2, .ref a3, .ref a4, .ref a5, .ref a6, .ref a7, .ref a8])), (a1, .inl (k0, 1700, .inl f_12))]) [0, 1] (by decide) rfl
  have hK9 := hK.sub (tys' := [(k0, .byte)]) [0] rfl
  exact W.vret hx hb hr (fun t ht hW => ⟨⟨(), rfl, trivial, f_12, by rw [ht]; exact hP9, va_K.moved hW.alike hK9, hD9⟩, hS.F ht⟩) hS.2.2 dX9_putBytes_46
set_option maxHeartbeats 4000000 in
set_option maxRecDepth 100000 in
theorem zX9_putBytes_5 (l : Launch) (dC : Nat → ClassId) (dI : Nat → Nat → Nat) (adK adV : Nat → Nat) (sz : Nat) (a0 : Nat) (p0 : Int32) (a1 : Nat) (a2 : Nat) (a3 : Nat) (a4 : Nat) (a5 : Nat) (a6 : Nat) (a7 : Nat) (a8 : Nat) (k0 : ClassId) (f0 : Nat → Int32) : Met l yX9_putBytes (Cond.code yX9_putBytes cX9_putBytes 3 none :: TB) ({ frames := 1, cells := 0, slots := 0, locals := 100 }) (XP (dC, dI) adK adV [.ref a0, .int p0] sz [(a0, .inr (9, [.ref a1, .int 16, .ref a2, .ref a3, .ref a4, .ref a5, .ref a6, .ref a7, .ref a8])), (a1, .inl (k0, 1700, .inl f0))] [(k0, .byte)]) (va_Qv (fun _ : Unit => True) (fun _ t => ∃ f_12 : Nat → Int32, va_P (dC, dI) CL [(a0, .inr (9, [.ref a1, .int 20, .ref a2, .ref a3, .ref a4, .ref a5, .ref a6, .ref a7, .ref a8])), (a1, .inl (k0, 1700, .inl f_12))] t.heap ∧ va_K (dC, dI) CL [(k0, .byte)] t ∧ va_D (va_A [(a0, .inr (9, [.ref a1, .int 16, .ref a2, .ref a3, .ref a4, .ref a5, .ref a6, .ref a7, .ref a8])), (a1, .inl (k0, 1700, .inl f0))] sz) [(a0, .inr (9, [.ref a1, .int 20, .ref a2, .ref a3, .ref a4, .ref a5, .ref a6, .ref a7, .ref a8])), (a1, .inl (k0, 1700, .inl f_12))]) (va_A [(a0, .inr (9, [.ref a1, .int 16, .ref a2, .ref a3, .ref a4, .ref a5, .ref a6, .ref a7, .ref a8])), (a1, .inl (k0, 1700, .inl f0))] sz)) 0 0 (va_A [(a0, .inr (9, [.ref a1, .int 16, .ref a2, .ref a3, .ref a4, .ref a5, .ref a6, .ref a7, .ref a8])), (a1, .inl (k0, 1700, .inl f0))] sz) := by
  refine Met.ofW (cc := cX9_putBytes) (maxL := 3) (ret := none) (by decide) rfl ?_
  intro p e s m args below meth c s₁ B hml hv
  obtain ⟨rfl, hsz, hP, hK, hD0, hC⟩ := hv
  have hx := B.exec
  have hb := B.bytes
  have hr := B.returns
  have hts0 := atoms_spec (ws := Cond.code yX9_putBytes cX9_putBytes 3 none :: TB) B.pre
  have hts : ∀ w ∈ TB, w.before _ s = true := fun w h => hts0 w (List.mem_cons_of_mem _ h)
  have hown : s.vm.findClass RX9 = some m.cls := findClass_of_methodNamed B.named
  have hlocks := B.notSynchronized
  subst hsz
  have hD := hD0.self (sz := s.heap.size)
  generalize hAe : va_A [(a0, .inr (9, [.ref a1, .int 16, .ref a2, .ref a3, .ref a4, .ref a5, .ref a6, .ref a7, .ref a8])), (a1, .inl (k0, 1700, .inl f0))] s.heap.size = A at hD hC ⊢
  have hA : ∀ q : Nat, s.heap.size ≤ q → A q := fun q h => by rw [← hAe]; exact Or.inr h
  have hl := lv_entry ([.ref a0, .int p0]) (n := 3) (Nat.le_of_ble_eq_true rfl)
  rw [lg_entry_eq]
  generalize (lg_sl ([.ref a0, .int p0]) ++ List.replicate (3 - (lg_sl ([.ref a0, .int p0])).length) Slot.unset).toArray = ls at hl ⊢
  have hl : lv_has ls 3 [(0, .ref a0), (1, .int p0)] := hl
  have hP : va_P (dC, dI) CL [(a0, .inr (9, [.ref a1, .int 16, .ref a2, .ref a3, .ref a4, .ref a5, .ref a6, .ref a7, .ref a8])), (a1, .inl (k0, 1700, .inl f0))] s.heap := hP
  obtain ⟨H, hH⟩ : ∃ z, z = s.heap := ⟨_, rfl⟩
  rw [← hH] at hP ⊢
  have hS : va_S A s.heap H [] := by rw [hH]; exact va_S.rf
  refine lv_bipush (v := 24) hx hb dX9_putBytes_0 (by decide) ?_
  refine lv_istore_n (lv' := [(2, .int 24), (0, .ref a0), (1, .int p0)]) hx hb dX9_putBytes_2 rfl hl (by decide) rfl (fun ls hl => ?_)
  refine lv_iload_n hx hb dX9_putBytes_3 rfl (lv_at hl 0 rfl) ?_
  refine lv_if_lt (tgt := 46) hx hb dX9_putBytes_4 (by decide) (fun h => absurd h (by decide)) (fun _ => ?_)
  refine lv_aload_n hx hb dX9_putBytes_7 rfl (lv_at hl 1 rfl) ?_
  refine va_get (D := (dC, dI)) (ci := 9) (v := .int 16) (C := RX9) (T := TX9) (N := 9) hx hb hts iwX9 hown hK hP 0 rfl rfl 1 (by decide) (hts _ mw_557) (fun _ h9 => h9) rfl dX9_putBytes_8 ?_
  refine lv_sipush (v := 1700) hx hb dX9_putBytes_11 (by decide) ?_
  refine lv_icmp_ge (tgt := 46) hx hb dX9_putBytes_14 (by decide) (fun h => absurd h (by decide)) (fun _ => ?_)
  refine lv_aload_n hx hb dX9_putBytes_17 rfl (lv_at hl 1 rfl) ?_
  refine va_get (D := (dC, dI)) (ci := 9) (v := .ref a1) (C := RX9) (T := TX9) (N := 9) hx hb hts iwX9 hown hK hP 0 rfl rfl 0 (by decide) (hts _ mw_556) (fun _ h9 => h9) rfl dX9_putBytes_18 ?_
  refine lv_aload_n hx hb dX9_putBytes_21 rfl (lv_at hl 1 rfl) ?_
  refine va_get (D := (dC, dI)) (ci := 9) (v := .int 16) (C := RX9) (T := TX9) (N := 9) hx hb hts iwX9 hown hK hP 0 rfl rfl 1 (by decide) (hts _ mw_557) (fun _ h9 => h9) rfl dX9_putBytes_22 ?_
  refine lv_iload_n hx hb dX9_putBytes_25 rfl (lv_at hl 2 rfl) ?_
  refine lv_iload_n hx hb dX9_putBytes_26 rfl (lv_at hl 0 rfl) ?_
  refine lv_ishr hx hb dX9_putBytes_27 ?_
  refine lv_topi (fun v_1 ev_1 => ?_)
  refine lv_i2b hx hb dX9_putBytes_28 rfl ?_
  refine lv_topi (fun v_2 ev_2 => ?_)
  refine xh_bast hx hb hK hP hD hS 1 0 rfl rfl (x_vp (k := 16) (by decide) (by decide) (by decide)) dX9_putBytes_29 (fun f_3 H locs hP hD hS => ?_)
  have hP : va_P (dC, dI) CL [(a0, .inr (9, [.ref a1, .int 16, .ref a2, .ref a3, .ref a4, .ref a5, .ref a6, .ref a7, .ref a8])), (a1, .inl (k0, 1700, .inl f_3))] H := hP
  have hD : va_D A [(a0, .inr (9, [.ref a1, .int 16, .ref a2, .ref a3, .ref a4, .ref a5, .ref a6, .ref a7, .ref a8])), (a1, .inl (k0, 1700, .inl f_3))] := hD
  refine lv_aload_n hx hb dX9_putBytes_30 rfl (lv_at hl 1 rfl) ?_
  refine lv_dup hx hb dX9_putBytes_31 rfl ?_
  refine va_get (D := (dC, dI)) (ci := 9) (v := .int 16) (C := RX9) (T := TX9) (N := 9) hx hb hts iwX9 hown hK hP 0 rfl rfl 1 (by decide) (hts _ mw_557) (fun _ h9 => h9) rfl dX9_putBytes_32 ?_
  refine lv_iconst (v := 1) hx hb dX9_putBytes_35 (by decide) ?_
  refine lv_iadd hx hb dX9_putBytes_36 ?_
  refine x_lit 17 (by decide) ?_
  refine va_put (D := (dC, dI)) (ci := 9) (v := .int 17) (ty := .int) (C := RX9) (T := TX9) (N := 9) hx hb hts iwX9 tyX9 tyX9_ok nmX9 hown hK hP hD hS 0 rfl rfl 1 (by decide) (hts _ mw_557) (fun _ h9 => h9) rfl (by decide +kernel) rfl rfl (Nat.le_of_ble_eq_true rfl) dX9_putBytes_37 (fun H locs hP hD hS => ?_)
  have hP : va_P (dC, dI) CL [(a0, .inr (9, [.ref a1, .int 17, .ref a2, .ref a3, .ref a4, .ref a5, .ref a6, .ref a7, .ref a8])), (a1, .inl (k0, 1700, .inl f_3))] H := hP
  have hD : va_D A [(a0, .inr (9, [.ref a1, .int 17, .ref a2, .ref a3, .ref a4, .ref a5, .ref a6, .ref a7, .ref a8])), (a1, .inl (k0, 1700, .inl f_3))] := hD
  refine lv_iinc (v := 16) (lv' := [(2, .int 16), (0, .ref a0), (1, .int p0)]) hx hb dX9_putBytes_40 hl (k := 0) rfl (by decide) (by decide) rfl (fun ls hl => ?_)
  refine lv_goto (tgt := 3) hx hb dX9_putBytes_43 (by decide) ?_
  refine lv_iload_n hx hb dX9_putBytes_3 rfl (lv_at hl 0 rfl) ?_
  refine lv_if_lt (tgt := 46) hx hb dX9_putBytes_4 (by decide) (fun h => absurd h (by decide)) (fun _ => ?_)
  refine lv_aload_n hx hb dX9_putBytes_7 rfl (lv_at hl 1 rfl) ?_
  refine va_get (D := (dC, dI)) (ci := 9) (v := .int 17) (C := RX9) (T := TX9) (N := 9) hx hb hts iwX9 hown hK hP 0 rfl rfl 1 (by decide) (hts _ mw_557) (fun _ h9 => h9) rfl dX9_putBytes_8 ?_
  refine lv_sipush (v := 1700) hx hb dX9_putBytes_11 (by decide) ?_
  refine lv_icmp_ge (tgt := 46) hx hb dX9_putBytes_14 (by decide) (fun h => absurd h (by decide)) (fun _ => ?_)
  refine lv_aload_n hx hb dX9_putBytes_17 rfl (lv_at hl 1 rfl) ?_
  refine va_get (D := (dC, dI)) (ci := 9) (v := .ref a1) (C := RX9) (T := TX9) (N := 9) hx hb hts iwX9 hown hK hP 0 rfl rfl 0 (by decide) (hts _ mw_556) (fun _ h9 => h9) rfl dX9_putBytes_18 ?_
  refine lv_aload_n hx hb dX9_putBytes_21 rfl (lv_at hl 1 rfl) ?_
  refine va_get (D := (dC, dI)) (ci := 9) (v := .int 17) (C := RX9) (T := TX9) (N := 9) hx hb hts iwX9 hown hK hP 0 rfl rfl 1 (by decide) (hts _ mw_557) (fun _ h9 => h9) rfl dX9_putBytes_22 ?_
  refine lv_iload_n hx hb dX9_putBytes_25 rfl (lv_at hl 2 rfl) ?_
  refine lv_iload_n hx hb dX9_putBytes_26 rfl (lv_at hl 0 rfl) ?_
  refine lv_ishr hx hb dX9_putBytes_27 ?_
  refine lv_topi (fun v_4 ev_4 => ?_)
  refine lv_i2b hx hb dX9_putBytes_28 rfl ?_
  refine lv_topi (fun v_5 ev_5 => ?_)
  refine xh_bast hx hb hK hP hD hS 1 0 rfl rfl (x_vp (k := 17) (by decide) (by decide) (by decide)) dX9_putBytes_29 (fun f_6 H locs hP hD hS => ?_)
  have hP : va_P (dC, dI) CL [(a0, .inr (9, [.ref a1, .int 17, .ref a2, .ref a3, .ref a4, .ref a5, .ref a6, .ref a7, .ref a8])), (a1, .inl (k0, 1700, .inl f_6))] H := hP
  have hD : va_D A [(a0, .inr (9, [.ref a1, .int 17, .ref a2, .ref a3, .ref a4, .ref a5, .ref a6, .ref a7, .ref a8])), (a1, .inl (k0, 1700, .inl f_6))] := hD
  refine lv_aload_n hx hb dX9_putBytes_30 rfl (lv_at hl 1 rfl) ?_
  refine lv_dup hx hb dX9_putBytes_31 rfl ?_
  refine va_get (D := (dC, dI)) (ci := 9) (v := .int 17) (C := RX9) (T := TX9) (N := 9) hx hb hts iwX9 hown hK hP 0 rfl rfl 1 (by decide) (hts _ mw_557) (fun _ h9 => h9) rfl dX9_putBytes_32 ?_
  refine lv_iconst (v := 1) hx hb dX9_putBytes_35 (by decide) ?_
  refine lv_iadd hx hb dX9_putBytes_36 ?_
  refine x_lit 18 (by decide) ?_
  refine va_put (D := (dC, dI)) (ci := 9) (v := .int 18) (ty := .int) (C := RX9) (T := TX9) (N := 9) hx hb hts iwX9 tyX9 tyX9_ok nmX9 hown hK hP hD hS 0 rfl rfl 1 (by decide) (hts _ mw_557) (fun _ h9 => h9) rfl (by decide +kernel) rfl rfl (Nat.le_of_ble_eq_true rfl) dX9_putBytes_37 (fun H locs hP hD hS => ?_)
  have hP : va_P (dC, dI) CL [(a0, .inr (9, [.ref a1, .int 18, .ref a2, .ref a3, .ref a4, .ref a5, .ref a6, .ref a7, .ref a8])), (a1, .inl (k0, 1700, .inl f_6))] H := hP
  have hD : va_D A [(a0, .inr (9, [.ref a1, .int 18, .ref a2, .ref a3, .ref a4, .ref a5, .ref a6, .ref a7, .ref a8])), (a1, .inl (k0, 1700, .inl f_6))] := hD
  refine lv_iinc (v := 8) (lv' := [(2, .int 8), (0, .ref a0), (1, .int p0)]) hx hb dX9_putBytes_40 hl (k := 0) rfl (by decide) (by decide) rfl (fun ls hl => ?_)
  refine lv_goto (tgt := 3) hx hb dX9_putBytes_43 (by decide) ?_
  refine lv_iload_n hx hb dX9_putBytes_3 rfl (lv_at hl 0 rfl) ?_
  refine lv_if_lt (tgt := 46) hx hb dX9_putBytes_4 (by decide) (fun h => absurd h (by decide)) (fun _ => ?_)
  refine lv_aload_n hx hb dX9_putBytes_7 rfl (lv_at hl 1 rfl) ?_
  refine va_get (D := (dC, dI)) (ci := 9) (v := .int 18) (C := RX9) (T := TX9) (N := 9) hx hb hts iwX9 hown hK hP 0 rfl rfl 1 (by decide) (hts _ mw_557) (fun _ h9 => h9) rfl dX9_putBytes_8 ?_
  refine lv_sipush (v := 1700) hx hb dX9_putBytes_11 (by decide) ?_
  refine lv_icmp_ge (tgt := 46) hx hb dX9_putBytes_14 (by decide) (fun h => absurd h (by decide)) (fun _ => ?_)
  refine lv_aload_n hx hb dX9_putBytes_17 rfl (lv_at hl 1 rfl) ?_
  refine va_get (D := (dC, dI)) (ci := 9) (v := .ref a1) (C := RX9) (T := TX9) (N := 9) hx hb hts iwX9 hown hK hP 0 rfl rfl 0 (by decide) (hts _ mw_556) (fun _ h9 => h9) rfl dX9_putBytes_18 ?_
  refine lv_aload_n hx hb dX9_putBytes_21 rfl (lv_at hl 1 rfl) ?_
  refine va_get (D := (dC, dI)) (ci := 9) (v := .int 18) (C := RX9) (T := TX9) (N := 9) hx hb hts iwX9 hown hK hP 0 rfl rfl 1 (by decide) (hts _ mw_557) (fun _ h9 => h9) rfl dX9_putBytes_22 ?_
  refine lv_iload_n hx hb dX9_putBytes_25 rfl (lv_at hl 2 rfl) ?_
  refine lv_iload_n hx hb dX9_putBytes_26 rfl (lv_at hl 0 rfl) ?_
  refine lv_ishr hx hb dX9_putBytes_27 ?_
  refine lv_topi (fun v_7 ev_7 => ?_)
  refine lv_i2b hx hb dX9_putBytes_28 rfl ?_
  refine lv_topi (fun v_8 ev_8 => ?_)
  refine xh_bast hx hb hK hP hD hS 1 0 rfl rfl (x_vp (k := 18) (by decide) (by decide) (by decide)) dX9_putBytes_29 (fun f_9 H locs hP hD hS => ?_)
  have hP : va_P (dC, dI) CL [(a0, .inr (9, [.ref a1, .int 18, .ref a2, .ref a3, .ref a4, .ref a5, .ref a6, .ref a7, .ref a8])), (a1, .inl (k0, 1700, .inl f_9))] H := hP
  have hD : va_D A [(a0, .inr (9, [.ref a1, .int 18, .ref a2, .ref a3, .ref a4, .ref a5, .ref a6, .ref a7, .ref a8])), (a1, .inl (k0, 1700, .inl f_9))] := hD
  refine lv_aload_n hx hb dX9_putBytes_30 rfl (lv_at hl 1 rfl) ?_
  refine lv_dup hx hb dX9_putBytes_31 rfl ?_
  refine va_get (D := (dC, dI)) (ci := 9) (v := .int 18) (C := RX9) (T := TX9) (N := 9) hx hb hts iwX9 hown hK hP 0 rfl rfl 1 (by decide) (hts _ mw_557) (fun _ h9 => h9) rfl dX9_putBytes_32 ?_
  refine lv_iconst (v := 1) hx hb dX9_putBytes_35 (by decide) ?_
  refine lv_iadd hx hb dX9_putBytes_36 ?_
  refine x_lit 19 (by decide) ?_
  refine va_put (D := (dC, dI)) (ci := 9) (v := .int 19) (ty := .int) (C := RX9) (T := TX9) (N := 9) hx hb hts iwX9 tyX9 tyX9_ok nmX9 hown hK hP hD hS 0 rfl rfl 1 (by decide) (hts _ mw_557) (fun _ h9 => h9) rfl (by decide +kernel) rfl rfl (Nat.le_of_ble_eq_true rfl) dX9_putBytes_37 (fun H locs hP hD hS => ?_)
  have hP : va_P (dC, dI) CL [(a0, .inr (9, [.ref a1, .int 19, .ref a2, .ref a3, .ref a4, .ref a5, .ref a6, .ref a7, .ref a8])), (a1, .inl (k0, 1700, .inl f_9))] H := hP
  have hD : va_D A [(a0, .inr (9, [.ref a1, .int 19, .ref a2, .ref a3, .ref a4, .ref a5, .ref a6, .ref a7, .ref a8])), (a1, .inl (k0, 1700, .inl f_9))] := hD
  refine lv_iinc (v := 0) (lv' := [(2, .int 0), (0, .ref a0), (1, .int p0)]) hx hb dX9_putBytes_40 hl (k := 0) rfl (by decide) (by decide) rfl (fun ls hl => ?_)
  refine lv_goto (tgt := 3) hx hb dX9_putBytes_43 (by decide) ?_
  refine lv_iload_n hx hb dX9_putBytes_3 rfl (lv_at hl 0 rfl) ?_
  refine lv_if_lt (tgt := 46) hx hb dX9_putBytes_4 (by decide) (fun h => absurd h (by decide)) (fun _ => ?_)
  refine lv_aload_n hx hb dX9_putBytes_7 rfl (lv_at hl 1 rfl) ?_
  refine va_get (D := (dC, dI)) (ci := 9) (v := .int 19) (C := RX9) (T := TX9) (N := 9) hx hb hts iwX9 hown hK hP 0 rfl rfl 1 (by decide) (hts _ mw_557) (fun _ h9 => h9) rfl dX9_putBytes_8 ?_
  refine lv_sipush (v := 1700) hx hb dX9_putBytes_11 (by decide) ?_
  refine lv_icmp_ge (tgt := 46) hx hb dX9_putBytes_14 (by decide) (fun h => absurd h (by decide)) (fun _ => ?_)
  refine lv_aload_n hx hb dX9_putBytes_17 rfl (lv_at hl 1 rfl) ?_
  refine va_get (D := (dC, dI)) (ci := 9) (v := .ref a1) (C := RX9) (T := TX9) (N := 9) hx hb hts iwX9 hown hK hP 0 rfl rfl 0 (by decide) (hts _ mw_556) (fun _ h9 => h9) rfl dX9_putBytes_18 ?_
  refine lv_aload_n hx hb dX9_putBytes_21 rfl (lv_at hl 1 rfl) ?_
  refine va_get (D := (dC, dI)) (ci := 9) (v := .int 19) (C := RX9) (T := TX9) (N := 9) hx hb hts iwX9 hown hK hP 0 rfl rfl 1 (by decide) (hts _ mw_557) (fun _ h9 => h9) rfl dX9_putBytes_22 ?_
  refine lv_iload_n hx hb dX9_putBytes_25 rfl (lv_at hl 2 rfl) ?_
  refine lv_iload_n hx hb dX9_putBytes_26 rfl (lv_at hl 0 rfl) ?_
  refine lv_ishr hx hb dX9_putBytes_27 ?_
  refine lv_topi (fun v_10 ev_10 => ?_)
  refine lv_i2b hx hb dX9_putBytes_28 rfl ?_
  refine lv_topi (fun v_11 ev_11 => ?_)
  refine xh_bast hx hb hK hP hD hS 1 0 rfl rfl (x_vp (k := 19) (by decide) (by decide) (by decide)) dX9_putBytes_29 (fun f_12 H locs hP hD hS => ?_)
  have hP : va_P (dC, dI) CL [(a0, .inr (9, [.ref a1, .int 19, .ref a2, .ref a3, .ref a4, .ref a5, .ref a6, .ref a7, .ref a8])), (a1, .inl (k0, 1700, .inl f_12))] H := hP
  have hD : va_D A [(a0, .inr (9, [.ref a1, .int 19, .ref a2, .ref a3, .ref a4, .ref a5, .ref a6, .ref a7, .ref a8])), (a1, .inl (k0, 1700, .inl f_12))] := hD
  refine lv_aload_n hx hb dX9_putBytes_30 rfl (lv_at hl 1 rfl) ?_
  refine lv_dup hx hb dX9_putBytes_31 rfl ?_
  refine va_get (D := (dC, dI)) (ci := 9) (v := .int 19) (C := RX9) (T := TX9) (N := 9) hx hb hts iwX9 hown hK hP 0 rfl rfl 1 (by decide) (hts _ mw_557) (fun _ h9 => h9) rfl dX9_putBytes_32 ?_
  refine lv_iconst (v := 1) hx hb dX9_putBytes_35 (by decide) ?_
  refine lv_iadd hx hb dX9_putBytes_36 ?_
  refine x_lit 20 (by decide) ?_
  refine va_put (D := (dC, dI)) (ci := 9) (v := .int 20) (ty := .int) (C := RX9) (T := TX9) (N := 9) hx hb hts iwX9 tyX9 tyX9_ok nmX9 hown hK hP hD hS 0 rfl rfl 1 (by decide) (hts _ mw_557) (fun _ h9 => h9) rfl (by decide +kernel) rfl rfl (Nat.le_of_ble_eq_true rfl) dX9_putBytes_37 (fun H locs hP hD hS => ?_)
  have hP : va_P (dC, dI) CL [(a0, .inr (9, [.ref a1, .int 20, .ref a2, .ref a3, .ref a4, .ref a5, .ref a6, .ref a7, .ref a8])), (a1, .inl (k0, 1700, .inl f_12))] H := hP
  have hD : va_D A [(a0, .inr (9, [.ref a1, .int 20, .ref a2, .ref a3, .ref a4, .ref a5, .ref a6, .ref a7, .ref a8])), (a1, .inl (k0, 1700, .inl f_12))] := hD
  refine lv_iinc (v := (-8)) (lv' := [(2, .int (-8)), (0, .ref a0), (1, .int p0)]) hx hb dX9_putBytes_40 hl (k := 0) rfl (by decide) (by decide) rfl (fun ls hl => ?_)
  refine lv_goto (tgt := 3) hx hb dX9_putBytes_43 (by decide) ?_
  refine lv_iload_n hx hb dX9_putBytes_3 rfl (lv_at hl 0 rfl) ?_
  refine lv_if_lt (tgt := 46) hx hb dX9_putBytes_4 (by decide) (fun _ => ?_) (fun h => (h (by decide)).elim)
  refine W.widen (k := 0) (n := 0) (Nat.le_of_ble_eq_true rfl) (Nat.le_of_ble_eq_true rfl) ?_
  have hP9 := hP.sub (ws' := [(a0, .inr (9, [.ref a1, .int 20, .ref a2, .ref a3, .ref a4, .ref a5, .ref a6, .ref a7, .ref a8])), (a1, .inl (k0, 1700, .inl f_12))]) [0, 1] rfl
  have hD9 := hD.sub (ws' := [(a0, .inr (9, [.ref a1, .int 20, .ref a2, .ref a3, .ref a4, .ref a5, .ref a6, .ref a7, .ref a8])), (a1, .inl (k0, 1700, .inl f_12))]) [0, 1] (by decide) rfl
  have hK9 := hK.sub (tys' := [(k0, .byte)]) [0] rfl
  exact W.vret hx hb hr (fun t ht hW => ⟨⟨(), rfl, trivial, f_12, by rw [ht]; exact hP9, va_K.moved hW.alike hK9, hD9⟩, hS.F ht⟩) hS.2.2 dX9_putBytes_46
set_option maxHeartbeats 4000000 in
set_option maxRecDepth 100000 in
theorem zX9_feed (l : Launch) (dC : Nat → ClassId) (dI : Nat → Nat → Nat) (adK adV : Nat → Nat) (sz : Nat) (a0 : Nat) (p0 : Int32) (p1 : Int32) (p2 : Int32) (p3 : Int32) (p4 : Int32) (a1 : Nat) (a2 : Nat) (a3 : Nat) (a4 : Nat) (a5 : Nat) (a6 : Nat) (a7 : Nat) (a8 : Nat) (k0 : ClassId) (f0 : Nat → Int32) : Met l yX9_feed (Cond.code yX9_feed cX9_feed 6 (some .int) :: TB) ({ frames := 2, cells := 0, slots := 0, locals := 122 }) (XP (dC, dI) adK adV [.ref a0, .int p0, .int p1, .int p2, .int p3, .int p4] sz [(a0, .inr (9, [.ref a1, .int 0, .ref a2, .ref a3, .ref a4, .ref a5, .ref a6, .ref a7, .ref a8])), (a1, .inl (k0, 1700, .inl f0))] [(k0, .byte)]) (va_Qi (fun (r : Int32) (_ : Unit) => r = 20) (fun _ _ => True) (va_A [(a0, .inr (9, [.ref a1, .int 0, .ref a2, .ref a3, .ref a4, .ref a5, .ref a6, .ref a7, .ref a8])), (a1, .inl (k0, 1700, .inl f0))] sz)) 0 0 (va_A [(a0, .inr (9, [.ref a1, .int 0, .ref a2, .ref a3, .ref a4, .ref a5, .ref a6, .ref a7, .ref a8])), (a1, .inl (k0, 1700, .inl f0))] sz) := by
  refine Met.ofW (cc := cX9_feed) (maxL := 6) (ret := (some .int)) (by decide) rfl ?_
  intro p e s m args below meth c s₁ B hml hv
  obtain ⟨rfl, hsz, hP, hK, hD0, hC⟩ := hv
  have hx := B.exec
  have hb := B.bytes
  have hr := B.returns
  have hts0 := atoms_spec (ws := Cond.code yX9_feed cX9_feed 6 (some .int) :: TB) B.pre
  have hts : ∀ w ∈ TB, w.before _ s = true := fun w h => hts0 w (List.mem_cons_of_mem _ h)
  have hown : s.vm.findClass RX9 = some m.cls := findClass_of_methodNamed B.named
  have hlocks := B.notSynchronized
  subst hsz
  have hD := hD0.self (sz := s.heap.size)
  generalize hAe : va_A [(a0, .inr (9, [.ref a1, .int 0, .ref a2, .ref a3, .ref a4, .ref a5, .ref a6, .ref a7, .ref a8])), (a1, .inl (k0, 1700, .inl f0))] s.heap.size = A at hD hC ⊢
  have hA : ∀ q : Nat, s.heap.size ≤ q → A q := fun q h => by rw [← hAe]; exact Or.inr h
  have hl := lv_entry ([.ref a0, .int p0, .int p1, .int p2, .int p3, .int p4]) (n := 6) (Nat.le_of_ble_eq_true rfl)
  rw [lg_entry_eq]
  generalize (lg_sl ([.ref a0, .int p0, .int p1, .int p2, .int p3, .int p4]) ++ List.replicate (6 - (lg_sl ([.ref a0, .int p0, .int p1, .int p2, .int p3, .int p4])).length) Slot.unset).toArray = ls at hl ⊢
  have hl : lv_has ls 6 [(0, .ref a0), (1, .int p0), (2, .int p1), (3, .int p2), (4, .int p3), (5, .int p4)] := hl
  have hP : va_P (dC, dI) CL [(a0, .inr (9, [.ref a1, .int 0, .ref a2, .ref a3, .ref a4, .ref a5, .ref a6, .ref a7, .ref a8])), (a1, .inl (k0, 1700, .inl f0))] s.heap := hP
  obtain ⟨H, hH⟩ : ∃ z, z = s.heap := ⟨_, rfl⟩
  rw [← hH] at hP ⊢
  have hS : va_S A s.heap H [] := by rw [hH]; exact va_S.rf
  refine lv_aload_n hx hb dX9_feed_0 rfl (lv_at hl 0 rfl) ?_
  refine va_get (D := (dC, dI)) (ci := 9) (v := .int 0) (C := RX9) (T := TX9) (N := 9) hx hb hts iwX9 hown hK hP 0 rfl rfl 1 (by decide) (hts _ mw_557) (fun _ h9 => h9) rfl dX9_feed_1 ?_
  refine lv_sipush (v := 1680) hx hb dX9_feed_4 (by decide) ?_
  refine lv_icmp_le (tgt := 12) hx hb dX9_feed_7 (by decide) (fun _ => ?_) (fun h => (h (by decide)).elim)
  refine lv_aload_n hx hb dX9_feed_12 rfl (lv_at hl 0 rfl) ?_
  refine lv_iload_n hx hb dX9_feed_13 rfl (lv_at hl 1 rfl) ?_
  have hPc := hP.sub (ws' := [(a0, .inr (9, [.ref a1, .int 0, .ref a2, .ref a3, .ref a4, .ref a5, .ref a6, .ref a7, .ref a8])), (a1, .inl (k0, 1700, .inl f0))]) [0, 1] rfl
  have hDc := hD.sub (ws' := [(a0, .inr (9, [.ref a1, .int 0, .ref a2, .ref a3, .ref a4, .ref a5, .ref a6, .ref a7, .ref a8])), (a1, .inl (k0, 1700, .inl f0))]) [0, 1] (by decide) rfl
  have hKc := hK.sub (tys' := [(k0, .byte)]) [0] rfl
  have hFc := va_free (wc := [(a0, .inr (9, [.ref a1, .int 0, .ref a2, .ref a3, .ref a4, .ref a5, .ref a6, .ref a7, .ref a8])), (a1, .inl (k0, 1700, .inl f0))]) hD hS hA [0, 1] rfl
  refine va_callv (va_runV (As := [.int p0]) (rest := []) ⟨hx, hb, hml, hown, hts⟩ (zX9_putBytes l dC dI adK adV H.size a0 p0 a1 a2 a3 a4 a5 a6 a7 a8 k0 f0) (cwV 1 hts (tb_V mw_588 mw_590 mw_1 mw_99 mw_591) rfl rfl rfl (by decide +kernel) ⟨Nat.le_of_ble_eq_true rfl, Nat.le_of_ble_eq_true rfl⟩) ⟨XB, va_recv hKc hPc (ci := 9) (q0 := 0) rfl rfl, XQ (av := [.ref a0, .int p0]) hPc hKc hDc hC hS hFc⟩ rfl rfl hl.1 rfl (lv_room (Nat.le_of_ble_eq_true rfl)) dX9_feed_14 ⟨Nat.le_of_ble_eq_true rfl, Nat.le_of_ble_eq_true rfl⟩) hS (fun q _ h => hFc q h) hFc (fun u_9 t H1 locs ht hvm hw hB hz1 hk1 hS => ?_)
  try dsimp only at hw
  obtain ⟨f_2, hP1, hK1, hD1⟩ := hB
  rw [ht] at hP1
  have hK1 := va_K.moved hvm.symm hK1
  obtain ⟨hP, hD⟩ := va_join (wr := []) (w1 := [(a0, .inr (9, [.ref a1, .int 4, .ref a2, .ref a3, .ref a4, .ref a5, .ref a6, .ref a7, .ref a8])), (a1, .inl (k0, 1700, .inl f_2))]) hP hD [0, 1] [] rfl rfl (by decide) (by decide) hk1 hFc hP1 hD1
  have hK := (hK.sub (tys' := []) [] rfl).app hK1
  generalize H1 = H at hP hS ⊢
  have hP : va_P (dC, dI) CL [(a0, .inr (9, [.ref a1, .int 4, .ref a2, .ref a3, .ref a4, .ref a5, .ref a6, .ref a7, .ref a8])), (a1, .inl (k0, 1700, .inl f_2))] H := hP
  have hD : va_D A [(a0, .inr (9, [.ref a1, .int 4, .ref a2, .ref a3, .ref a4, .ref a5, .ref a6, .ref a7, .ref a8])), (a1, .inl (k0, 1700, .inl f_2))] := hD
  have hK : va_K (dC, dI) CL [(k0, .byte)] s := hK
  refine lv_aload_n hx hb dX9_feed_17 rfl (lv_at hl 0 rfl) ?_
  refine lv_iload_n hx hb dX9_feed_18 rfl (lv_at hl 2 rfl) ?_
  have hPc := hP.sub (ws' := [(a0, .inr (9, [.ref a1, .int 4, .ref a2, .ref a3, .ref a4, .ref a5, .ref a6, .ref a7, .ref a8])), (a1, .inl (k0, 1700, .inl f_2))]) [0, 1] rfl
  have hDc := hD.sub (ws' := [(a0, .inr (9, [.ref a1, .int 4, .ref a2, .ref a3, .ref a4, .ref a5, .ref a6, .ref a7, .ref a8])), (a1, .inl (k0, 1700, .inl f_2))]) [0, 1] (by decide) rfl
  have hKc := hK.sub (tys' := [(k0, .byte)]) [0] rfl
  have hFc := va_free (wc := [(a0, .inr (9, [.ref a1, .int 4, .ref a2, .ref a3, .ref a4, .ref a5, .ref a6, .ref a7, .ref a8])), (a1, .inl (k0, 1700, .inl f_2))]) hD hS hA [0, 1] rfl
  refine va_callv (va_runV (As := [.int p1]) (rest := []) ⟨hx, hb, hml, hown, hts⟩ (zX9_putBytes_2 l dC dI adK adV H.size a0 p1 a1 a2 a3 a4 a5 a6 a7 a8 k0 f_2) (cwV 1 hts (tb_V mw_588 mw_590 mw_1 mw_99 mw_591) rfl rfl rfl (by decide +kernel) ⟨Nat.le_of_ble_eq_true rfl, Nat.le_of_ble_eq_true rfl⟩) ⟨XB, va_recv hKc hPc (ci := 9) (q0 := 0) rfl rfl, XQ (av := [.ref a0, .int p1]) hPc hKc hDc hC hS hFc⟩ rfl rfl hl.1 rfl (lv_room (Nat.le_of_ble_eq_true rfl)) dX9_feed_19 ⟨Nat.le_of_ble_eq_true rfl, Nat.le_of_ble_eq_true rfl⟩) hS (fun q _ h => hFc q h) hFc (fun u_9 t H1 locs ht hvm hw hB hz1 hk1 hS => ?_)
  try dsimp only at hw
  obtain ⟨f_4, hP1, hK1, hD1⟩ := hB
  rw [ht] at hP1
  have hK1 := va_K.moved hvm.symm hK1
  obtain ⟨hP, hD⟩ := va_join (wr := []) (w1 := [(a0, .inr (9, [.ref a1, .int 8, .ref a2, .ref a3, .ref a4, .ref a5, .ref a6, .ref a7, .ref a8])), (a1, .inl (k0, 1700, .inl f_4))]) hP hD [0, 1] [] rfl rfl (by decide) (by decide) hk1 hFc hP1 hD1
  have hK := (hK.sub (tys' := []) [] rfl).app hK1
  generalize H1 = H at hP hS ⊢
  have hP : va_P (dC, dI) CL [(a0, .inr (9, [.ref a1, .int 8, .ref a2, .ref a3, .ref a4, .ref a5, .ref a6, .ref a7, .ref a8])), (a1, .inl (k0, 1700, .inl f_4))] H := hP
  have hD : va_D A [(a0, .inr (9, [.ref a1, .int 8, .ref a2, .ref a3, .ref a4, .ref a5, .ref a6, .ref a7, .ref a8])), (a1, .inl (k0, 1700, .inl f_4))] := hD
  have hK : va_K (dC, dI) CL [(k0, .byte)] s := hK
  refine lv_aload_n hx hb dX9_feed_22 rfl (lv_at hl 0 rfl) ?_
  refine lv_iload_n hx hb dX9_feed_23 rfl (lv_at hl 3 rfl) ?_
  have hPc := hP.sub (ws' := [(a0, .inr (9, [.ref a1, .int 8, .ref a2, .ref a3, .ref a4, .ref a5, .ref a6, .ref a7, .ref a8])), (a1, .inl (k0, 1700, .inl f_4))]) [0, 1] rfl
  have hDc := hD.sub (ws' := [(a0, .inr (9, [.ref a1, .int 8, .ref a2, .ref a3, .ref a4, .ref a5, .ref a6, .ref a7, .ref a8])), (a1, .inl (k0, 1700, .inl f_4))]) [0, 1] (by decide) rfl
  have hKc := hK.sub (tys' := [(k0, .byte)]) [0] rfl
  have hFc := va_free (wc := [(a0, .inr (9, [.ref a1, .int 8, .ref a2, .ref a3, .ref a4, .ref a5, .ref a6, .ref a7, .ref a8])), (a1, .inl (k0, 1700, .inl f_4))]) hD hS hA [0, 1] rfl
  refine va_callv (va_runV (As := [.int p2]) (rest := []) ⟨hx, hb, hml, hown, hts⟩ (zX9_putBytes_3 l dC dI adK adV H.size a0 p2 a1 a2 a3 a4 a5 a6 a7 a8 k0 f_4) (cwV 1 hts (tb_V mw_588 mw_590 mw_1 mw_99 mw_591) rfl rfl rfl (by decide +kernel) ⟨Nat.le_of_ble_eq_true rfl, Nat.le_of_ble_eq_true rfl⟩) ⟨XB, va_recv hKc hPc (ci := 9) (q0 := 0) rfl rfl, XQ (av := [.ref a0, .int p2]) hPc hKc hDc hC hS hFc⟩ rfl rfl hl.1 rfl (lv_room (Nat.le_of_ble_eq_true rfl)) dX9_feed_24 ⟨Nat.le_of_ble_eq_true rfl, Nat.le_of_ble_eq_true rfl⟩) hS (fun q _ h => hFc q h) hFc (fun u_9 t H1 locs ht hvm hw hB hz1 hk1 hS => ?_)
  try dsimp only at hw
  obtain ⟨f_6, hP1, hK1, hD1⟩ := hB
  rw [ht] at hP1
  have hK1 := va_K.moved hvm.symm hK1
  obtain ⟨hP, hD⟩ := va_join (wr := []) (w1 := [(a0, .inr (9, [.ref a1, .int 12, .ref a2, .ref a3, .ref a4, .ref a5, .ref a6, .ref a7, .ref a8])), (a1, .inl (k0, 1700, .inl f_6))]) hP hD [0, 1] [] rfl rfl (by decide) (by decide) hk1 hFc hP1 hD1
  have hK := (hK.sub (tys' := []) [] rfl).app hK1
  generalize H1 = H at hP hS ⊢
  have hP : va_P (dC, dI) CL [(a0, .inr (9, [.ref a1, .int 12, .ref a2, .ref a3, .ref a4, .ref a5, .ref a6, .ref a7, .ref a8])), (a1, .inl (k0, 1700, .inl f_6))] H := hP
  have hD : va_D A [(a0, .inr (9, [.ref a1, .int 12, .ref a2, .ref a3, .ref a4, .ref a5, .ref a6, .ref a7, .ref a8])), (a1, .inl (k0, 1700, .inl f_6))] := hD
  have hK : va_K (dC, dI) CL [(k0, .byte)] s := hK
  refine lv_aload_n hx hb dX9_feed_27 rfl (lv_at hl 0 rfl) ?_
  refine lv_iload hx hb dX9_feed_28 (lv_at hl 4 rfl) ?_
  have hPc := hP.sub (ws' := [(a0, .inr (9, [.ref a1, .int 12, .ref a2, .ref a3, .ref a4, .ref a5, .ref a6, .ref a7, .ref a8])), (a1, .inl (k0, 1700, .inl f_6))]) [0, 1] rfl
  have hDc := hD.sub (ws' := [(a0, .inr (9, [.ref a1, .int 12, .ref a2, .ref a3, .ref a4, .ref a5, .ref a6, .ref a7, .ref a8])), (a1, .inl (k0, 1700, .inl f_6))]) [0, 1] (by decide) rfl
  have hKc := hK.sub (tys' := [(k0, .byte)]) [0] rfl
  have hFc := va_free (wc := [(a0, .inr (9, [.ref a1, .int 12, .ref a2, .ref a3, .ref a4, .ref a5, .ref a6, .ref a7, .ref a8])), (a1, .inl (k0, 1700, .inl f_6))]) hD hS hA [0, 1] rfl
  refine va_callv (va_runV (As := [.int p3]) (rest := []) ⟨hx, hb, hml, hown, hts⟩ (zX9_putBytes_4 l dC dI adK adV H.size a0 p3 a1 a2 a3 a4 a5 a6 a7 a8 k0 f_6) (cwV 1 hts (tb_V mw_588 mw_590 mw_1 mw_99 mw_591) rfl rfl rfl (by decide +kernel) ⟨Nat.le_of_ble_eq_true rfl, Nat.le_of_ble_eq_true rfl⟩) ⟨XB, va_recv hKc hPc (ci := 9) (q0 := 0) rfl rfl, XQ (av := [.ref a0, .int p3]) hPc hKc hDc hC hS hFc⟩ rfl rfl hl.1 rfl (lv_room (Nat.le_of_ble_eq_true rfl)) dX9_feed_30 ⟨Nat.le_of_ble_eq_true rfl, Nat.le_of_ble_eq_true rfl⟩) hS (fun q _ h => hFc q h) hFc (fun u_9 t H1 locs ht hvm hw hB hz1 hk1 hS => ?_)
  try dsimp only at hw
  obtain ⟨f_8, hP1, hK1, hD1⟩ := hB
  rw [ht] at hP1
  have hK1 := va_K.moved hvm.symm hK1
  obtain ⟨hP, hD⟩ := va_join (wr := []) (w1 := [(a0, .inr (9, [.ref a1, .int 16, .ref a2, .ref a3, .ref a4, .ref a5, .ref a6, .ref a7, .ref a8])), (a1, .inl (k0, 1700, .inl f_8))]) hP hD [0, 1] [] rfl rfl (by decide) (by decide) hk1 hFc hP1 hD1
  have hK := (hK.sub (tys' := []) [] rfl).app hK1
  generalize H1 = H at hP hS ⊢
  have hP : va_P (dC, dI) CL [(a0, .inr (9, [.ref a1, .int 16, .ref a2, .ref a3, .ref a4, .ref a5, .ref a6, .ref a7, .ref a8])), (a1, .inl (k0, 1700, .inl f_8))] H := hP
  have hD : va_D A [(a0, .inr (9, [.ref a1, .int 16, .ref a2, .ref a3, .ref a4, .ref a5, .ref a6, .ref a7, .ref a8])), (a1, .inl (k0, 1700, .inl f_8))] := hD
  have hK : va_K (dC, dI) CL [(k0, .byte)] s := hK
  refine lv_aload_n hx hb dX9_feed_33 rfl (lv_at hl 0 rfl) ?_
  refine lv_iload hx hb dX9_feed_34 (lv_at hl 5 rfl) ?_
  have hPc := hP.sub (ws' := [(a0, .inr (9, [.ref a1, .int 16, .ref a2, .ref a3, .ref a4, .ref a5, .ref a6, .ref a7, .ref a8])), (a1, .inl (k0, 1700, .inl f_8))]) [0, 1] rfl
  have hDc := hD.sub (ws' := [(a0, .inr (9, [.ref a1, .int 16, .ref a2, .ref a3, .ref a4, .ref a5, .ref a6, .ref a7, .ref a8])), (a1, .inl (k0, 1700, .inl f_8))]) [0, 1] (by decide) rfl
  have hKc := hK.sub (tys' := [(k0, .byte)]) [0] rfl
  have hFc := va_free (wc := [(a0, .inr (9, [.ref a1, .int 16, .ref a2, .ref a3, .ref a4, .ref a5, .ref a6, .ref a7, .ref a8])), (a1, .inl (k0, 1700, .inl f_8))]) hD hS hA [0, 1] rfl
  refine va_callv (va_runV (As := [.int p4]) (rest := []) ⟨hx, hb, hml, hown, hts⟩ (zX9_putBytes_5 l dC dI adK adV H.size a0 p4 a1 a2 a3 a4 a5 a6 a7 a8 k0 f_8) (cwV 1 hts (tb_V mw_588 mw_590 mw_1 mw_99 mw_591) rfl rfl rfl (by decide +kernel) ⟨Nat.le_of_ble_eq_true rfl, Nat.le_of_ble_eq_true rfl⟩) ⟨XB, va_recv hKc hPc (ci := 9) (q0 := 0) rfl rfl, XQ (av := [.ref a0, .int p4]) hPc hKc hDc hC hS hFc⟩ rfl rfl hl.1 rfl (lv_room (Nat.le_of_ble_eq_true rfl)) dX9_feed_36 ⟨Nat.le_of_ble_eq_true rfl, Nat.le_of_ble_eq_true rfl⟩) hS (fun q _ h => hFc q h) hFc (fun u_9 t H1 locs ht hvm hw hB hz1 hk1 hS => ?_)
  try dsimp only at hw
  obtain ⟨f_10, hP1, hK1, hD1⟩ := hB
  rw [ht] at hP1
  have hK1 := va_K.moved hvm.symm hK1
  obtain ⟨hP, hD⟩ := va_join (wr := []) (w1 := [(a0, .inr (9, [.ref a1, .int 20, .ref a2, .ref a3, .ref a4, .ref a5, .ref a6, .ref a7, .ref a8])), (a1, .inl (k0, 1700, .inl f_10))]) hP hD [0, 1] [] rfl rfl (by decide) (by decide) hk1 hFc hP1 hD1
  have hK := (hK.sub (tys' := []) [] rfl).app hK1
  generalize H1 = H at hP hS ⊢
  have hP : va_P (dC, dI) CL [(a0, .inr (9, [.ref a1, .int 20, .ref a2, .ref a3, .ref a4, .ref a5, .ref a6, .ref a7, .ref a8])), (a1, .inl (k0, 1700, .inl f_10))] H := hP
  have hD : va_D A [(a0, .inr (9, [.ref a1, .int 20, .ref a2, .ref a3, .ref a4, .ref a5, .ref a6, .ref a7, .ref a8])), (a1, .inl (k0, 1700, .inl f_10))] := hD
  have hK : va_K (dC, dI) CL [(k0, .byte)] s := hK
  refine lv_aload_n hx hb dX9_feed_39 rfl (lv_at hl 0 rfl) ?_
  refine va_get (D := (dC, dI)) (ci := 9) (v := .int 20) (C := RX9) (T := TX9) (N := 9) hx hb hts iwX9 hown hK hP 0 rfl rfl 1 (by decide) (hts _ mw_557) (fun _ h9 => h9) rfl dX9_feed_40 ?_
  refine W.widen (k := 0) (n := 0) (Nat.le_of_ble_eq_true rfl) (Nat.le_of_ble_eq_true rfl) ?_
  exact W.iret (v := 20) hx hb hr (fun t ht hW => ⟨⟨20, (), rfl, rfl, trivial⟩, hS.F ht⟩) hS.2.2 dX9_feed_43
set_option maxHeartbeats 4000000 in
set_option maxRecDepth 100000 in
theorem zX9_end (l : Launch) (dC : Nat → ClassId) (dI : Nat → Nat → Nat) (adK adV : Nat → Nat) (sz : Nat) (a0 : Nat) (p0 : Int32) (a1 : Nat) (a2 : Nat) (a3 : Nat) (a4 : Nat) (a5 : Nat) (a6 : Nat) (a7 : Nat) (a8 : Nat) : Met l yX9_end (Cond.code yX9_end cX9_end 2 (some .int) :: TB) ({ frames := 1, cells := 0, slots := 0, locals := 100 }) (XP (dC, dI) adK adV [.ref a0, .int p0] sz [(a0, .inr (9, [.ref a1, .int 0, .ref a2, .ref a3, .ref a4, .ref a5, .ref a6, .ref a7, .ref a8]))] []) (va_Qi (fun (r : Int32) (_ : Unit) => r = res_end p0) (fun _ _ => True) (va_A [(a0, .inr (9, [.ref a1, .int 0, .ref a2, .ref a3, .ref a4, .ref a5, .ref a6, .ref a7, .ref a8]))] sz)) 0 0 (va_A [(a0, .inr (9, [.ref a1, .int 0, .ref a2, .ref a3, .ref a4, .ref a5, .ref a6, .ref a7, .ref a8]))] sz) := by
  refine Met.ofW (cc := cX9_end) (maxL := 2) (ret := (some .int)) (by decide) rfl ?_
  intro p e s m args below meth c s₁ B hml hv
  obtain ⟨rfl, hsz, hP, hK, hD0, hC⟩ := hv
  have hx := B.exec
  have hb := B.bytes
  have hr := B.returns
  have hts0 := atoms_spec (ws := Cond.code yX9_end cX9_end 2 (some .int) :: TB) B.pre
  have hts : ∀ w ∈ TB, w.before _ s = true := fun w h => hts0 w (List.mem_cons_of_mem _ h)
  have hown : s.vm.findClass RX9 = some m.cls := findClass_of_methodNamed B.named
  have hlocks := B.notSynchronized
  subst hsz
  have hD := hD0.self (sz := s.heap.size)
  generalize hAe : va_A [(a0, .inr (9, [.ref a1, .int 0, .ref a2, .ref a3, .ref a4, .ref a5, .ref a6, .ref a7, .ref a8]))] s.heap.size = A at hD hC ⊢
  have hA : ∀ q : Nat, s.heap.size ≤ q → A q := fun q h => by rw [← hAe]; exact Or.inr h
  have hl := lv_entry ([.ref a0, .int p0]) (n := 2) (Nat.le_of_ble_eq_true rfl)
  rw [lg_entry_eq]
  generalize (lg_sl ([.ref a0, .int p0]) ++ List.replicate (2 - (lg_sl ([.ref a0, .int p0])).length) Slot.unset).toArray = ls at hl ⊢
  have hl : lv_has ls 2 [(0, .ref a0), (1, .int p0)] := hl
  have hP : va_P (dC, dI) CL [(a0, .inr (9, [.ref a1, .int 0, .ref a2, .ref a3, .ref a4, .ref a5, .ref a6, .ref a7, .ref a8]))] s.heap := hP
  obtain ⟨H, hH⟩ : ∃ z, z = s.heap := ⟨_, rfl⟩
  rw [← hH] at hP ⊢
  have hS : va_S A s.heap H [] := by rw [hH]; exact va_S.rf
  refine lv_iload_n hx hb dX9_end_0 rfl (lv_at hl 1 rfl) ?_
  refine lv_if_lt (tgt := 12) hx hb dX9_end_1 (by decide) (fun c_1 => ?_) (fun c_1 => ?_)
  · refine lv_iconst (v := (-1)) hx hb dX9_end_12 (by decide) ?_
    refine W.widen (k := 0) (n := 0) (Nat.le_of_ble_eq_true rfl) (Nat.le_of_ble_eq_true rfl) ?_
    exact W.iret (v := (-1)) hx hb hr (fun t ht hW => ⟨⟨(-1), (), rfl, (by first | decide | exact (if_pos (by have kc_1 := lt_i c_1; simp only [xi_0] at kc_1; omega)).symm | exact (if_neg (by have kc_1 := lt_i c_1; simp only [xi_0] at kc_1; omega)).symm), trivial⟩, hS.F ht⟩) hS.2.2 dX9_end_13
  · refine lv_iload_n hx hb dX9_end_4 rfl (lv_at hl 1 rfl) ?_
    refine lv_aload_n hx hb dX9_end_5 rfl (lv_at hl 0 rfl) ?_
    refine va_get (D := (dC, dI)) (ci := 9) (v := .int 0) (C := RX9) (T := TX9) (N := 9) hx hb hts iwX9 hown hK hP 0 rfl rfl 1 (by decide) (hts _ mw_557) (fun _ h9 => h9) rfl dX9_end_6 ?_
    refine lv_icmp_le (tgt := 14) hx hb dX9_end_9 (by decide) (fun c_2 => ?_) (fun c_2 => ?_)
    · obtain rfl : p0 = 0 := Int32.toInt_inj.mp (by rw [xi_0]; have kc_1 := nlt_i c_1; have kc_2 := le_i c_2; simp only [xi_0] at kc_1 kc_2; omega)
      refine lv_aload_n hx hb dX9_end_14 rfl (lv_at hl 0 rfl) ?_
      refine lv_iload_n hx hb dX9_end_15 rfl (lv_at hl 1 rfl) ?_
      refine va_put (D := (dC, dI)) (ci := 9) (v := .int 0) (ty := .int) (C := RX9) (T := TX9) (N := 9) hx hb hts iwX9 tyX9 tyX9_ok nmX9 hown hK hP hD hS 0 rfl rfl 1 (by decide) (hts _ mw_557) (fun _ h9 => h9) rfl (by decide +kernel) rfl rfl (Nat.le_of_ble_eq_true rfl) dX9_end_16 (fun H locs hP hD hS => ?_)
      have hP : va_P (dC, dI) CL [(a0, .inr (9, [.ref a1, .int 0, .ref a2, .ref a3, .ref a4, .ref a5, .ref a6, .ref a7, .ref a8]))] H := hP
      have hD : va_D A [(a0, .inr (9, [.ref a1, .int 0, .ref a2, .ref a3, .ref a4, .ref a5, .ref a6, .ref a7, .ref a8]))] := hD
      refine lv_iload_n hx hb dX9_end_19 rfl (lv_at hl 1 rfl) ?_
      refine W.widen (k := 0) (n := 0) (Nat.le_of_ble_eq_true rfl) (Nat.le_of_ble_eq_true rfl) ?_
      exact W.iret (v := 0) hx hb hr (fun t ht hW => ⟨⟨0, (), rfl, (by first | decide | exact (if_pos (by omega)).symm | exact (if_neg (by omega)).symm), trivial⟩, hS.F ht⟩) hS.2.2 dX9_end_20
    · refine lv_iconst (v := (-1)) hx hb dX9_end_12 (by decide) ?_
      refine W.widen (k := 0) (n := 0) (Nat.le_of_ble_eq_true rfl) (Nat.le_of_ble_eq_true rfl) ?_
      exact W.iret (v := (-1)) hx hb hr (fun t ht hW => ⟨⟨(-1), (), rfl, (by first | decide | exact (if_pos (by have kc_1 := nlt_i c_1; have kc_2 := nle_i c_2; simp only [xi_0] at kc_1 kc_2; omega)).symm | exact (if_neg (by have kc_1 := nlt_i c_1; have kc_2 := nle_i c_2; simp only [xi_0] at kc_1 kc_2; omega)).symm), trivial⟩, hS.F ht⟩) hS.2.2 dX9_end_13
set_option maxHeartbeats 4000000 in
set_option maxRecDepth 100000 in
theorem lpJ7_fill_53178_3_5 {p : Program} {l : Launch} {e : Env} {s : State} {m : MethodId} {args : Array Value} {below : List Frame} {meth : Method} {c : Code} {Q : State → Prop} {dC : Nat → ClassId} {dI : Nat → Nat → Nat} {adK adV : Nat → Nat} {A : Nat → Prop} {a0 : Nat} {k0 : ClassId} (hx : p.tables.exec = Jvm.exec) (hb : c.code = cJ7_fill_53178) (hml : c.maxLocals = 4) (hown : s.vm.findClass RJ7 = some m.cls) (hts : ∀ w ∈ TB, w.before args s = true) (hC : XC adK adV A s s.heap) (hA : ∀ q : Nat, s.heap.size ≤ q → A q) (hK : va_K (dC, dI) CL [(k0, .int)] s) (kk : ∀ (g0 : Nat → Int32) (H : Heap) (locs : List Loc) (ls : Array Slot), va_P (dC, dI) CL [(a0, .inl (k0, 5, .inl g0))] H → va_D A [(a0, .inl (k0, 5, .inl g0))] → va_S A s.heap H locs → lv_has ls 4 [(3, .int 5), (2, .int 5), (0, .ref a0), (1, .int (-1))] → W p l e (headSpec (Cond.code yJ7_fill_53178 cJ7_fill_53178 4 none :: TB) ({ frames := 1, cells := 0, slots := 0, locals := 100 })).room s m args below meth c H locs 0 0 Q (F0 m 5 ls [])) : ∀ (n i : Nat), i + n = 5 → ∀ (g0 : Nat → Int32) (H : Heap) (locs : List Loc) (ls : Array Slot), va_P (dC, dI) CL [(a0, .inl (k0, 5, .inl g0))] H → va_D A [(a0, .inl (k0, 5, .inl g0))] → va_S A s.heap H locs → lv_has ls 4 [(3, .int 5), (2, .int (nI i)), (0, .ref a0), (1, .int (-1))] → W p l e (headSpec (Cond.code yJ7_fill_53178 cJ7_fill_53178 4 none :: TB) ({ frames := 1, cells := 0, slots := 0, locals := 100 })).room s m args below meth c H locs 0 0 Q (F0 m 5 ls []) := by
  intro n
  induction n with
  | zero =>
    intro i hi g0  H locs ls hP hD hS hl
    have hi : i = 5 := by omega
    subst hi
    exact kk g0  H locs ls hP hD hS hl
  | succ n ih =>
    intro i hi g0  H locs ls hP hD hS hl
    have hlt : i < 5 := by omega
    refine lv_iload_n hx hb dJ7_fill_53178_5 rfl (lv_at hl 1 rfl) ?_
    refine lv_iload_n hx hb dJ7_fill_53178_6 rfl (lv_at hl 0 rfl) ?_
    refine lv_icmp_ge (tgt := 20) hx hb dJ7_fill_53178_7 (by decide) (fun h => absurd h (nI_ge (a := i) (b := 5) hlt (by decide))) (fun _ => ?_)
    refine lv_aload_n hx hb dJ7_fill_53178_10 rfl (lv_at hl 2 rfl) ?_
    refine lv_iload_n hx hb dJ7_fill_53178_11 rfl (lv_at hl 1 rfl) ?_
    refine lv_iload_n hx hb dJ7_fill_53178_12 rfl (lv_at hl 3 rfl) ?_
    refine xh_iast hx hb hK hP hD hS 0 0 rfl rfl (vp_in_nI (by omega) (by decide)) dJ7_fill_53178_13 (fun f_501 H locs hP hD hS => ?_)
    have hP : va_P (dC, dI) CL [(a0, .inl (k0, 5, .inl f_501))] H := hP
    have hD : va_D A [(a0, .inl (k0, 5, .inl f_501))] := hD
    refine lv_iinc (v := (nI (i + 1))) (lv' := [(2, .int (nI (i + 1))), (3, .int 5), (0, .ref a0), (1, .int (-1))]) hx hb dJ7_fill_53178_14 hl (k := 1) rfl (nI_1 _) (by decide) rfl (fun ls hl => ?_)
    refine lv_goto (tgt := 5) hx hb dJ7_fill_53178_17 (by decide) ?_
    exact ih (i + 1) (by omega) f_501 _ _ _ (hP.sub [0] rfl) (hD.sub [0] (by decide) rfl) hS (lv_sub hl [1, 0, 2, 3] rfl)
set_option maxHeartbeats 4000000 in
set_option maxRecDepth 100000 in
theorem zJ7_fill_53178_3 (l : Launch) (dC : Nat → ClassId) (dI : Nat → Nat → Nat) (adK adV : Nat → Nat) (sz : Nat) (a0 : Nat) (k0 : ClassId) (f0 : Nat → Int32) : Met l yJ7_fill_53178 (Cond.code yJ7_fill_53178 cJ7_fill_53178 4 none :: TB) ({ frames := 1, cells := 0, slots := 0, locals := 100 }) (XP (dC, dI) adK adV [.ref a0, .int (-1)] sz [(a0, .inl (k0, 5, .inl f0))] [(k0, .int)]) (va_Qv (fun _ : Unit => True) (fun _ t => ∃ f_1 : Nat → Int32, va_P (dC, dI) CL [(a0, .inl (k0, 5, .inl f_1))] t.heap ∧ va_K (dC, dI) CL [(k0, .int)] t ∧ va_D (va_A [(a0, .inl (k0, 5, .inl f0))] sz) [(a0, .inl (k0, 5, .inl f_1))]) (va_A [(a0, .inl (k0, 5, .inl f0))] sz)) 0 0 (va_A [(a0, .inl (k0, 5, .inl f0))] sz) := by
  refine Met.ofW (cc := cJ7_fill_53178) (maxL := 4) (ret := none) (by decide) rfl ?_
  intro p e s m args below meth c s₁ B hml hv
  obtain ⟨rfl, hsz, hP, hK, hD0, hC⟩ := hv
  have hx := B.exec
  have hb := B.bytes
  have hr := B.returns
  have hts0 := atoms_spec (ws := Cond.code yJ7_fill_53178 cJ7_fill_53178 4 none :: TB) B.pre
  have hts : ∀ w ∈ TB, w.before _ s = true := fun w h => hts0 w (List.mem_cons_of_mem _ h)
  have hown : s.vm.findClass RJ7 = some m.cls := findClass_of_methodNamed B.named
  have hlocks := B.notSynchronized
  subst hsz
  have hD := hD0.self (sz := s.heap.size)
  generalize hAe : va_A [(a0, .inl (k0, 5, .inl f0))] s.heap.size = A at hD hC ⊢
  have hA : ∀ q : Nat, s.heap.size ≤ q → A q := fun q h => by rw [← hAe]; exact Or.inr h
  have hl := lv_entry ([.ref a0, .int (-1)]) (n := 4) (Nat.le_of_ble_eq_true rfl)
  rw [lg_entry_eq]
  generalize (lg_sl ([.ref a0, .int (-1)]) ++ List.replicate (4 - (lg_sl ([.ref a0, .int (-1)])).length) Slot.unset).toArray = ls at hl ⊢
  have hl : lv_has ls 4 [(0, .ref a0), (1, .int (-1))] := hl
  have hP : va_P (dC, dI) CL [(a0, .inl (k0, 5, .inl f0))] s.heap := hP
  obtain ⟨H, hH⟩ : ∃ z, z = s.heap := ⟨_, rfl⟩
  rw [← hH] at hP ⊢
  have hS : va_S A s.heap H [] := by rw [hH]; exact va_S.rf
  refine lv_iconst (v := 0) hx hb dJ7_fill_53178_0 (by decide) ?_
  refine lv_istore_n (lv' := [(2, .int 0), (0, .ref a0), (1, .int (-1))]) hx hb dJ7_fill_53178_1 rfl hl (by decide) rfl (fun ls hl => ?_)
  refine lv_aload_n hx hb dJ7_fill_53178_2 rfl (lv_at hl 1 rfl) ?_
  refine va_alen (v := 5) hx hb hK hP 0 0 rfl rfl rfl dJ7_fill_53178_3 ?_
  refine lv_istore_n (lv' := [(3, .int 5), (2, .int 0), (0, .ref a0), (1, .int (-1))]) hx hb dJ7_fill_53178_4 rfl hl (by decide) rfl (fun ls hl => ?_)
  refine lpJ7_fill_53178_3_5 hx hb hml hown hts hC hA hK (fun f_1 H locs ls hP hD hS hl => ?_) 5 0 rfl f0 _ _ _ hP hD hS (lv_sub hl [0, 1, 2, 3] rfl)
  have hP : va_P (dC, dI) CL [(a0, .inl (k0, 5, .inl f_1))] H := hP
  have hD : va_D A [(a0, .inl (k0, 5, .inl f_1))] := hD
  have hl : lv_has ls 4 [(3, .int 5), (2, .int 5), (0, .ref a0), (1, .int (-1))] := hl
  refine lv_iload_n hx hb dJ7_fill_53178_5 rfl (lv_at hl 1 rfl) ?_
  refine lv_iload_n hx hb dJ7_fill_53178_6 rfl (lv_at hl 0 rfl) ?_
  refine lv_icmp_ge (tgt := 20) hx hb dJ7_fill_53178_7 (by decide) (fun _ => ?_) (fun h => (h (by decide)).elim)
  refine W.widen (k := 0) (n := 0) (Nat.le_of_ble_eq_true rfl) (Nat.le_of_ble_eq_true rfl) ?_
  have hP9 := hP.sub (ws' := [(a0, .inl (k0, 5, .inl f_1))]) [0] rfl
  have hD9 := hD.sub (ws' := [(a0, .inl (k0, 5, .inl f_1))]) [0] (by decide) rfl
  have hK9 := hK.sub (tys' := [(k0, .int)]) [0] rfl
  exact W.vret hx hb hr (fun t ht hW => ⟨⟨(), rfl, trivial, f_1, by rw [ht]; exact hP9, va_K.moved hW.alike hK9, hD9⟩, hS.F ht⟩) hS.2.2 dJ7_fill_53178_20
