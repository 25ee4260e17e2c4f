set_option maxHeartbeats 4000000 in
set_option maxRecDepth 100000 in
theorem zX10_feed (l : Launch) (dC : Nat → ClassId) (dI : Nat → Nat → Nat) (adK adV : Nat → Nat) (sz : Nat) (a0 : Nat) (p0 : Int32) (p1 : Int32) (p2 : Int32) (p3 : Int32) (p4 : Int32) (a1 : Nat) (k0 : ClassId) (f0 : Nat → Int32) (a2 : Nat) (a3 : Nat) (a4 : Nat) (a5 : Nat) (a6 : Nat) (a7 : Nat) (a8 : Nat) (a9 : Nat) (a10 : Nat) (a11 : Nat) (a12 : Nat) (a13 : Nat) (a14 : Nat) (a15 : Nat) (a16 : Nat) (a17 : Nat) (a18 : Nat) (a19 : Nat) (a20 : Nat) (a21 : Nat) (a22 : Nat) (a23 : Nat) (a24 : Nat) (a25 : Nat) (a26 : Nat) (a27 : Nat) (a28 : Nat) (a29 : Nat) (a30 : Nat) (a31 : Nat) (a32 : Nat) (a33 : Nat) (a34 : Nat) (a35 : Nat) (a36 : Nat) (a37 : Nat) (a38 : Nat) (a39 : Nat) (a40 : Nat) (a41 : Nat) (a42 : Nat) (a43 : Nat) (a44 : Nat) (a45 : Nat) (a46 : Nat) (a47 : Nat) (a48 : Nat) (a49 : Nat) (a50 : Nat) (a51 : Nat) : Met l yX10_feed (Cond.code yX10_feed cX10_feed 8 (some .int) :: TB) ({ frames := 1, cells := 0, slots := 0, locals := 100 }) (XP (dC, dI) adK adV [.ref a0, .int p0, .int p1, .int p2, .int p3, .int p4] sz [(a1, .inl (k0, 1720, .inl f0)), (a0, .inr (10, [.ref a1, .ref a2, .int 0, .int 0, .int 0, .int (-1), .int 0, .int 0, .int 0, .int 0, .long 0, .ref a3, .ref a4, .ref a5, .ref a6, .ref a7, .ref a8, .ref a9, .ref a10, .ref a11, .ref a12, .ref a13, .ref a14, .ref a15, .ref a16, .ref a17, .ref a18, .ref a19, .ref a20, .ref a21, .ref a22, .ref a23, .ref a24, .ref a25, .ref a26, .ref a27, .ref a28, .ref a29, .ref a30, .ref a31, .ref a32, .ref a33, .int 0, .int 0, .int 0, .int 0, .int 0, .ref a34, .ref a35, .ref a36, .ref a37, .ref a38, .ref a39, .ref a40, .ref a41, .ref a42, .ref a43, .ref a44, .int 0, .int 0, .ref a45, .ref a46, .ref a47, .ref a48, .ref a49, .ref a50, .ref a51]))] [(k0, .byte)]) (va_Qi (fun (r : Int32) (_ : Unit) => r = 20) (fun _ _ => True) (va_A [(a1, .inl (k0, 1720, .inl f0)), (a0, .inr (10, [.ref a1, .ref a2, .int 0, .int 0, .int 0, .int (-1), .int 0, .int 0, .int 0, .int 0, .long 0, .ref a3, .ref a4, .ref a5, .ref a6, .ref a7, .ref a8, .ref a9, .ref a10, .ref a11, .ref a12, .ref a13, .ref a14, .ref a15, .ref a16, .ref a17, .ref a18, .ref a19, .ref a20, .ref a21, .ref a22, .ref a23, .ref a24, .ref a25, .ref a26, .ref a27, .ref a28, .ref a29, .ref a30, .ref a31, .ref a32, .ref a33, .int 0, .int 0, .int 0, .int 0, .int 0, .ref a34, .ref a35, .ref a36, .ref a37, .ref a38, .ref a39, .ref a40, .ref a41, .ref a42, .ref a43, .ref a44, .int 0, .int 0, .ref a45, .ref a46, .ref a47, .ref a48, .ref a49, .ref a50, .ref a51]))] sz)) 0 0 (va_A [(a1, .inl (k0, 1720, .inl f0)), (a0, .inr (10, [.ref a1, .ref a2, .int 0, .int 0, .int 0, .int (-1), .int 0, .int 0, .int 0, .int 0, .long 0, .ref a3, .ref a4, .ref a5, .ref a6, .ref a7, .ref a8, .ref a9, .ref a10, .ref a11, .ref a12, .ref a13, .ref a14, .ref a15, .ref a16, .ref a17, .ref a18, .ref a19, .ref a20, .ref a21, .ref a22, .ref a23, .ref a24, .ref a25, .ref a26, .ref a27, .ref a28, .ref a29, .ref a30, .ref a31, .ref a32, .ref a33, .int 0, .int 0, .int 0, .int 0, .int 0, .ref a34, .ref a35, .ref a36, .ref a37, .ref a38, .ref a39, .ref a40, .ref a41, .ref a42, .ref a43, .ref a44, .int 0, .int 0, .ref a45, .ref a46, .ref a47, .ref a48, .ref a49, .ref a50, .ref a51]))] sz) := by
  refine Met.ofW (cc := cX10_feed) (maxL := 8) (ret := (some .int)) (by decide) rfl ?_
  intro p e s m args below meth c s₁ B hml hv
  obtain ⟨rfl, hsz, hP, hK, hD0, hC⟩ := hv
  have hx := B.exec
  have hb := B.bytes
  have hr := B.returns
  have hts0 := atoms_spec (ws := Cond.code yX10_feed cX10_feed 8 (some .int) :: TB) B.pre
  have hts : ∀ w ∈ TB, w.before _ s = true := fun w h => hts0 w (List.mem_cons_of_mem _ h)
  have hown : s.vm.findClass RX10 = some m.cls := findClass_of_methodNamed B.named
  have hlocks := B.notSynchronized
  subst hsz
  have hD := hD0.self (sz := s.heap.size)
  generalize hAe : va_A [(a1, .inl (k0, 1720, .inl f0)), (a0, .inr (10, [.ref a1, .ref a2, .int 0, .int 0, .int 0, .int (-1), .int 0, .int 0, .int 0, .int 0, .long 0, .ref a3, .ref a4, .ref a5, .ref a6, .ref a7, .ref a8, .ref a9, .ref a10, .ref a11, .ref a12, .ref a13, .ref a14, .ref a15, .ref a16, .ref a17, .ref a18, .ref a19, .ref a20, .ref a21, .ref a22, .ref a23, .ref a24, .ref a25, .ref a26, .ref a27, .ref a28, .ref a29, .ref a30, .ref a31, .ref a32, .ref a33, .int 0, .int 0, .int 0, .int 0, .int 0, .ref a34, .ref a35, .ref a36, .ref a37, .ref a38, .ref a39, .ref a40, .ref a41, .ref a42, .ref a43, .ref a44, .int 0, .int 0, .ref a45, .ref a46, .ref a47, .ref a48, .ref a49, .ref a50, .ref a51]))] s.heap.size = A at hD hC ⊢
  have hA : ∀ q : Nat, s.heap.size ≤ q → A q := fun q h => by rw [← hAe]; exact Or.inr h
  have hl := lv_entry ([.ref a0, .int p0, .int p1, .int p2, .int p3, .int p4]) (n := 8) (Nat.le_of_ble_eq_true rfl)
  rw [lg_entry_eq]
  generalize (lg_sl ([.ref a0, .int p0, .int p1, .int p2, .int p3, .int p4]) ++ List.replicate (8 - (lg_sl ([.ref a0, .int p0, .int p1, .int p2, .int p3, .int p4])).length) Slot.unset).toArray = ls at hl ⊢
  have hl : lv_has ls 8 [(0, .ref a0), (1, .int p0), (2, .int p1), (3, .int p2), (4, .int p3), (5, .int p4)] := hl
  have hP : va_P (dC, dI) CL [(a1, .inl (k0, 1720, .inl f0)), (a0, .inr (10, [.ref a1, .ref a2, .int 0, .int 0, .int 0, .int (-1), .int 0, .int 0, .int 0, .int 0, .long 0, .ref a3, .ref a4, .ref a5, .ref a6, .ref a7, .ref a8, .ref a9, .ref a10, .ref a11, .ref a12, .ref a13, .ref a14, .ref a15, .ref a16, .ref a17, .ref a18, .ref a19, .ref a20, .ref a21, .ref a22, .ref a23, .ref a24, .ref a25, .ref a26, .ref a27, .ref a28, .ref a29, .ref a30, .ref a31, .ref a32, .ref a33, .int 0, .int 0, .int 0, .int 0, .int 0, .ref a34, .ref a35, .ref a36, .ref a37, .ref a38, .ref a39, .ref a40, .ref a41, .ref a42, .ref a43, .ref a44, .int 0, .int 0, .ref a45, .ref a46, .ref a47, .ref a48, .ref a49, .ref a50, .ref a51]))] s.heap := hP
  obtain ⟨H, hH⟩ : ∃ z, z = s.heap := ⟨_, rfl⟩
  rw [← hH] at hP ⊢
  have hS : va_S A s.heap H [] := by rw [hH]; exact va_S.rf
  refine lv_aload_n hx hb dX10_feed_0 rfl (lv_at hl 0 rfl) ?_
  refine va_get (D := (dC, dI)) (ci := 10) (v := .int 0) (C := RX10) (T := TX10) (N := 67) hx hb hts iwX10 hown hK hP 1 rfl rfl 2 (by decide) (hts _ mw_1178) (fun _ h9 => h9) rfl dX10_feed_1 ?_
  refine lv_bipush (v := 20) hx hb dX10_feed_4 (by decide) ?_
  refine lv_iadd hx hb dX10_feed_6 ?_
  refine x_lit 20 (by decide) ?_
  refine lv_sipush (v := 1700) hx hb dX10_feed_7 (by decide) ?_
  refine lv_icmp_le (tgt := 15) hx hb dX10_feed_10 (by decide) (fun _ => ?_) (fun h => (h (by decide)).elim)
  refine lv_iconst (v := 0) hx hb dX10_feed_15 (by decide) ?_
  refine lv_istore (lv' := [(6, .int 0), (0, .ref a0), (1, .int p0), (2, .int p1), (3, .int p2), (4, .int p3), (5, .int p4)]) hx hb dX10_feed_16 hl (by decide) rfl (fun ls hl => ?_)
  refine lv_iload hx hb dX10_feed_18 (lv_at hl 0 rfl) ?_
  refine lv_bipush (v := 20) hx hb dX10_feed_20 (by decide) ?_
  refine lv_icmp_ge (tgt := 105) hx hb dX10_feed_22 (by decide) (fun h => absurd h (by decide)) (fun _ => ?_)
  refine lv_iload hx hb dX10_feed_25 (lv_at hl 0 rfl) ?_
  refine lv_iconst (v := 4) hx hb dX10_feed_27 (by decide) ?_
  refine lv_icmp_ge (tgt := 35) hx hb dX10_feed_28 (by decide) (fun h => absurd h (by decide)) (fun _ => ?_)
  refine lv_iload_n hx hb dX10_feed_31 rfl (lv_at hl 2 rfl) ?_
  refine lv_goto (tgt := 71) hx hb dX10_feed_32 (by decide) ?_
  refine lv_istore (lv' := [(7, .int p0), (6, .int 0), (0, .ref a0), (1, .int p0), (2, .int p1), (3, .int p2), (4, .int p3), (5, .int p4)]) hx hb dX10_feed_71 hl (by decide) rfl (fun ls hl => ?_)
  refine lv_aload_n hx hb dX10_feed_73 rfl (lv_at hl 2 rfl) ?_
  refine va_get (D := (dC, dI)) (ci := 10) (v := .ref a1) (C := RX10) (T := TX10) (N := 67) hx hb hts iwX10 hown hK hP 1 rfl rfl 0 (by decide) (hts _ mw_1176) (fun _ h9 => h9) rfl dX10_feed_74 ?_
  refine lv_aload_n hx hb dX10_feed_77 rfl (lv_at hl 2 rfl) ?_
  refine va_get (D := (dC, dI)) (ci := 10) (v := .int 0) (C := RX10) (T := TX10) (N := 67) hx hb hts iwX10 hown hK hP 1 rfl rfl 2 (by decide) (hts _ mw_1178) (fun _ h9 => h9) rfl dX10_feed_78 ?_
  refine lv_iload hx hb dX10_feed_81 (lv_at hl 1 rfl) ?_
  refine lv_iadd hx hb dX10_feed_83 ?_
  refine x_lit 0 (by decide) ?_
  refine lv_iload hx hb dX10_feed_84 (lv_at hl 0 rfl) ?_
  refine lv_bipush (v := 24) hx hb dX10_feed_86 (by decide) ?_
  refine lv_bipush (v := 8) hx hb dX10_feed_88 (by decide) ?_
  refine lv_iload hx hb dX10_feed_90 (lv_at hl 1 rfl) ?_
  refine lv_iconst (v := 3) hx hb dX10_feed_92 (by decide) ?_
  refine lv_iand hx hb dX10_feed_93 ?_
  refine x_lit 0 (by decide) ?_
  refine lv_imul hx hb dX10_feed_94 ?_
  refine x_lit 0 (by decide) ?_
  refine lv_isub hx hb dX10_feed_95 ?_
  refine x_lit 24 (by decide) ?_
  refine lv_ishr hx hb dX10_feed_96 ?_
  refine lv_topi (fun v_1 ev_1 => ?_)
  refine lv_i2b hx hb dX10_feed_97 rfl ?_
  refine lv_topi (fun v_2 ev_2 => ?_)
  refine xh_bast hx hb hK hP hD hS 0 0 rfl rfl (x_vp (k := 0) (by decide) (by decide) (by decide)) dX10_feed_98 (fun f_3 H locs hP hD hS => ?_)
  have hP : va_P (dC, dI) CL [(a1, .inl (k0, 1720, .inl f_3)), (a0, .inr (10, [.ref a1, .ref a2, .int 0, .int 0, .int 0, .int (-1), .int 0, .int 0, .int 0, .int 0, .long 0, .ref a3, .ref a4, .ref a5, .ref a6, .ref a7, .ref a8, .ref a9, .ref a10, .ref a11, .ref a12, .ref a13, .ref a14, .ref a15, .ref a16, .ref a17, .ref a18, .ref a19, .ref a20, .ref a21, .ref a22, .ref a23, .ref a24, .ref a25, .ref a26, .ref a27, .ref a28, .ref a29, .ref a30, .ref a31, .ref a32, .ref a33, .int 0, .int 0, .int 0, .int 0, .int 0, .ref a34, .ref a35, .ref a36, .ref a37, .ref a38, .ref a39, .ref a40, .ref a41, .ref a42, .ref a43, .ref a44, .int 0, .int 0, .ref a45, .ref a46, .ref a47, .ref a48, .ref a49, .ref a50, .ref a51]))] H := hP
  have hD : va_D A [(a1, .inl (k0, 1720, .inl f_3)), (a0, .inr (10, [.ref a1, .ref a2, .int 0, .int 0, .int 0, .int (-1), .int 0, .int 0, .int 0, .int 0, .long 0, .ref a3, .ref a4, .ref a5, .ref a6, .ref a7, .ref a8, .ref a9, .ref a10, .ref a11, .ref a12, .ref a13, .ref a14, .ref a15, .ref a16, .ref a17, .ref a18, .ref a19, .ref a20, .ref a21, .ref a22, .ref a23, .ref a24, .ref a25, .ref a26, .ref a27, .ref a28, .ref a29, .ref a30, .ref a31, .ref a32, .ref a33, .int 0, .int 0, .int 0, .int 0, .int 0, .ref a34, .ref a35, .ref a36, .ref a37, .ref a38, .ref a39, .ref a40, .ref a41, .ref a42, .ref a43, .ref a44, .int 0, .int 0, .ref a45, .ref a46, .ref a47, .ref a48, .ref a49, .ref a50, .ref a51]))] := hD
  refine lv_iinc (v := 1) (lv' := [(6, .int 1), (7, .int p0), (0, .ref a0), (1, .int p0), (2, .int p1), (3, .int p2), (4, .int p3), (5, .int p4)]) hx hb dX10_feed_99 hl (k := 1) rfl (by decide) (by decide) rfl (fun ls hl => ?_)
  refine lv_goto (tgt := 18) hx hb dX10_feed_102 (by decide) ?_
  refine lv_iload hx hb dX10_feed_18 (lv_at hl 0 rfl) ?_
  refine lv_bipush (v := 20) hx hb dX10_feed_20 (by decide) ?_
  refine lv_icmp_ge (tgt := 105) hx hb dX10_feed_22 (by decide) (fun h => absurd h (by decide)) (fun _ => ?_)
  refine lv_iload hx hb dX10_feed_25 (lv_at hl 0 rfl) ?_
  refine lv_iconst (v := 4) hx hb dX10_feed_27 (by decide) ?_
  refine lv_icmp_ge (tgt := 35) hx hb dX10_feed_28 (by decide) (fun h => absurd h (by decide)) (fun _ => ?_)
  refine lv_iload_n hx hb dX10_feed_31 rfl (lv_at hl 3 rfl) ?_
  refine lv_goto (tgt := 71) hx hb dX10_feed_32 (by decide) ?_
  refine lv_istore (lv' := [(7, .int p0), (6, .int 1), (0, .ref a0), (1, .int p0), (2, .int p1), (3, .int p2), (4, .int p3), (5, .int p4)]) hx hb dX10_feed_71 hl (by decide) rfl (fun ls hl => ?_)
  refine lv_aload_n hx hb dX10_feed_73 rfl (lv_at hl 2 rfl) ?_
  refine va_get (D := (dC, dI)) (ci := 10) (v := .ref a1) (C := RX10) (T := TX10) (N := 67) hx hb hts iwX10 hown hK hP 1 rfl rfl 0 (by decide) (hts _ mw_1176) (fun _ h9 => h9) rfl dX10_feed_74 ?_
  refine lv_aload_n hx hb dX10_feed_77 rfl (lv_at hl 2 rfl) ?_
  refine va_get (D := (dC, dI)) (ci := 10) (v := .int 0) (C := RX10) (T := TX10) (N := 67) hx hb hts iwX10 hown hK hP 1 rfl rfl 2 (by decide) (hts _ mw_1178) (fun _ h9 => h9) rfl dX10_feed_78 ?_
  refine lv_iload hx hb dX10_feed_81 (lv_at hl 1 rfl) ?_
  refine lv_iadd hx hb dX10_feed_83 ?_
  refine x_lit 1 (by decide) ?_
  refine lv_iload hx hb dX10_feed_84 (lv_at hl 0 rfl) ?_
  refine lv_bipush (v := 24) hx hb dX10_feed_86 (by decide) ?_
  refine lv_bipush (v := 8) hx hb dX10_feed_88 (by decide) ?_
  refine lv_iload hx hb dX10_feed_90 (lv_at hl 1 rfl) ?_
  refine lv_iconst (v := 3) hx hb dX10_feed_92 (by decide) ?_
  refine lv_iand hx hb dX10_feed_93 ?_
  refine x_lit 1 (by decide) ?_
  refine lv_imul hx hb dX10_feed_94 ?_
  refine x_lit 8 (by decide) ?_
  refine lv_isub hx hb dX10_feed_95 ?_
  refine x_lit 16 (by decide) ?_
  refine lv_ishr hx hb dX10_feed_96 ?_
  refine lv_topi (fun v_4 ev_4 => ?_)
  refine lv_i2b hx hb dX10_feed_97 rfl ?_
  refine lv_topi (fun v_5 ev_5 => ?_)
  refine xh_bast hx hb hK hP hD hS 0 0 rfl rfl (x_vp (k := 1) (by decide) (by decide) (by decide)) dX10_feed_98 (fun f_6 H locs hP hD hS => ?_)
  have hP : va_P (dC, dI) CL [(a1, .inl (k0, 1720, .inl f_6)), (a0, .inr (10, [.ref a1, .ref a2, .int 0, .int 0, .int 0, .int (-1), .int 0, .int 0, .int 0, .int 0, .long 0, .ref a3, .ref a4, .ref a5, .ref a6, .ref a7, .ref a8, .ref a9, .ref a10, .ref a11, .ref a12, .ref a13, .ref a14, .ref a15, .ref a16, .ref a17, .ref a18, .ref a19, .ref a20, .ref a21, .ref a22, .ref a23, .ref a24, .ref a25, .ref a26, .ref a27, .ref a28, .ref a29, .ref a30, .ref a31, .ref a32, .ref a33, .int 0, .int 0, .int 0, .int 0, .int 0, .ref a34, .ref a35, .ref a36, .ref a37, .ref a38, .ref a39, .ref a40, .ref a41, .ref a42, .ref a43, .ref a44, .int 0, .int 0, .ref a45, .ref a46, .ref a47, .ref a48, .ref a49, .ref a50, .ref a51]))] H := hP
  have hD : va_D A [(a1, .inl (k0, 1720, .inl f_6)), (a0, .inr (10, [.ref a1, .ref a2, .int 0, .int 0, .int 0, .int (-1), .int 0, .int 0, .int 0, .int 0, .long 0, .ref a3, .ref a4, .ref a5, .ref a6, .ref a7, .ref a8, .ref a9, .ref a10, .ref a11, .ref a12, .ref a13, .ref a14, .ref a15, .ref a16, .ref a17, .ref a18, .ref a19, .ref a20, .ref a21, .ref a22, .ref a23, .ref a24, .ref a25, .ref a26, .ref a27, .ref a28, .ref a29, .ref a30, .ref a31, .ref a32, .ref a33, .int 0, .int 0, .int 0, .int 0, .int 0, .ref a34, .ref a35, .ref a36, .ref a37, .ref a38, .ref a39, .ref a40, .ref a41, .ref a42, .ref a43, .ref a44, .int 0, .int 0, .ref a45, .ref a46, .ref a47, .ref a48, .ref a49, .ref a50, .ref a51]))] := hD
  refine lv_iinc (v := 2) (lv' := [(6, .int 2), (7, .int p0), (0, .ref a0), (1, .int p0), (2, .int p1), (3, .int p2), (4, .int p3), (5, .int p4)]) hx hb dX10_feed_99 hl (k := 1) rfl (by decide) (by decide) rfl (fun ls hl => ?_)
  refine lv_goto (tgt := 18) hx hb dX10_feed_102 (by decide) ?_
  refine lv_iload hx hb dX10_feed_18 (lv_at hl 0 rfl) ?_
  refine lv_bipush (v := 20) hx hb dX10_feed_20 (by decide) ?_
  refine lv_icmp_ge (tgt := 105) hx hb dX10_feed_22 (by decide) (fun h => absurd h (by decide)) (fun _ => ?_)
  refine lv_iload hx hb dX10_feed_25 (lv_at hl 0 rfl) ?_
  refine lv_iconst (v := 4) hx hb dX10_feed_27 (by decide) ?_
  refine lv_icmp_ge (tgt := 35) hx hb dX10_feed_28 (by decide) (fun h => absurd h (by decide)) (fun _ => ?_)
  refine lv_iload_n hx hb dX10_feed_31 rfl (lv_at hl 3 rfl) ?_
  refine lv_goto (tgt := 71) hx hb dX10_feed_32 (by decide) ?_
  refine lv_istore (lv' := [(7, .int p0), (6, .int 2), (0, .ref a0), (1, .int p0), (2, .int p1), (3, .int p2), (4, .int p3), (5, .int p4)]) hx hb dX10_feed_71 hl (by decide) rfl (fun ls hl => ?_)
  refine lv_aload_n hx hb dX10_feed_73 rfl (lv_at hl 2 rfl) ?_
  refine va_get (D := (dC, dI)) (ci := 10) (v := .ref a1) (C := RX10) (T := TX10) (N := 67) hx hb hts iwX10 hown hK hP 1 rfl rfl 0 (by decide) (hts _ mw_1176) (fun _ h9 => h9) rfl dX10_feed_74 ?_
  refine lv_aload_n hx hb dX10_feed_77 rfl (lv_at hl 2 rfl) ?_
  refine va_get (D := (dC, dI)) (ci := 10) (v := .int 0) (C := RX10) (T := TX10) (N := 67) hx hb hts iwX10 hown hK hP 1 rfl rfl 2 (by decide) (hts _ mw_1178) (fun _ h9 => h9) rfl dX10_feed_78 ?_
  refine lv_iload hx hb dX10_feed_81 (lv_at hl 1 rfl) ?_
  refine lv_iadd hx hb dX10_feed_83 ?_
  refine x_lit 2 (by decide) ?_
  refine lv_iload hx hb dX10_feed_84 (lv_at hl 0 rfl) ?_
  refine lv_bipush (v := 24) hx hb dX10_feed_86 (by decide) ?_
  refine lv_bipush (v := 8) hx hb dX10_feed_88 (by decide) ?_
  refine lv_iload hx hb dX10_feed_90 (lv_at hl 1 rfl) ?_
  refine lv_iconst (v := 3) hx hb dX10_feed_92 (by decide) ?_
  refine lv_iand hx hb dX10_feed_93 ?_
  refine x_lit 2 (by decide) ?_
  refine lv_imul hx hb dX10_feed_94 ?_
  refine x_lit 16 (by decide) ?_
  refine lv_isub hx hb dX10_feed_95 ?_
  refine x_lit 8 (by decide) ?_
  refine lv_ishr hx hb dX10_feed_96 ?_
  refine lv_topi (fun v_7 ev_7 => ?_)
  refine lv_i2b hx hb dX10_feed_97 rfl ?_
  refine lv_topi (fun v_8 ev_8 => ?_)
  refine xh_bast hx hb hK hP hD hS 0 0 rfl rfl (x_vp (k := 2) (by decide) (by decide) (by decide)) dX10_feed_98 (fun f_9 H locs hP hD hS => ?_)
  have hP : va_P (dC, dI) CL [(a1, .inl (k0, 1720, .inl f_9)), (a0, .inr (10, [.ref a1, .ref a2, .int 0, .int 0, .int 0, .int (-1), .int 0, .int 0, .int 0, .int 0, .long 0, .ref a3, .ref a4, .ref a5, .ref a6, .ref a7, .ref a8, .ref a9, .ref a10, .ref a11, .ref a12, .ref a13, .ref a14, .ref a15, .ref a16, .ref a17, .ref a18, .ref a19, .ref a20, .ref a21, .ref a22, .ref a23, .ref a24, .ref a25, .ref a26, .ref a27, .ref a28, .ref a29, .ref a30, .ref a31, .ref a32, .ref a33, .int 0, .int 0, .int 0, .int 0, .int 0, .ref a34, .ref a35, .ref a36, .ref a37, .ref a38, .ref a39, .ref a40, .ref a41, .ref a42, .ref a43, .ref a44, .int 0, .int 0, .ref a45, .ref a46, .ref a47, .ref a48, .ref a49, .ref a50, .ref a51]))] H := hP
  have hD : va_D A [(a1, .inl (k0, 1720, .inl f_9)), (a0, .inr (10, [.ref a1, .ref a2, .int 0, .int 0, .int 0, .int (-1), .int 0, .int 0, .int 0, .int 0, .long 0, .ref a3, .ref a4, .ref a5, .ref a6, .ref a7, .ref a8, .ref a9, .ref a10, .ref a11, .ref a12, .ref a13, .ref a14, .ref a15, .ref a16, .ref a17, .ref a18, .ref a19, .ref a20, .ref a21, .ref a22, .ref a23, .ref a24, .ref a25, .ref a26, .ref a27, .ref a28, .ref a29, .ref a30, .ref a31, .ref a32, .ref a33, .int 0, .int 0, .int 0, .int 0, .int 0, .ref a34, .ref a35, .ref a36, .ref a37, .ref a38, .ref a39, .ref a40, .ref a41, .ref a42, .ref a43, .ref a44, .int 0, .int 0, .ref a45, .ref a46, .ref a47, .ref a48, .ref a49, .ref a50, .ref a51]))] := hD
  refine lv_iinc (v := 3) (lv' := [(6, .int 3), (7, .int p0), (0, .ref a0), (1, .int p0), (2, .int p1), (3, .int p2), (4, .int p3), (5, .int p4)]) hx hb dX10_feed_99 hl (k := 1) rfl (by decide) (by decide) rfl (fun ls hl => ?_)
  refine lv_goto (tgt := 18) hx hb dX10_feed_102 (by decide) ?_
  refine lv_iload hx hb dX10_feed_18 (lv_at hl 0 rfl) ?_
  refine lv_bipush (v := 20) hx hb dX10_feed_20 (by decide) ?_
  refine lv_icmp_ge (tgt := 105) hx hb dX10_feed_22 (by decide) (fun h => absurd h (by decide)) (fun _ => ?_)
  refine lv_iload hx hb dX10_feed_25 (lv_at hl 0 rfl) ?_
  refine lv_iconst (v := 4) hx hb dX10_feed_27 (by decide) ?_
  refine lv_icmp_ge (tgt := 35) hx hb dX10_feed_28 (by decide) (fun h => absurd h (by decide)) (fun _ => ?_)
  refine lv_iload_n hx hb dX10_feed_31 rfl (lv_at hl 3 rfl) ?_
  refine lv_goto (tgt := 71) hx hb dX10_feed_32 (by decide) ?_
  refine lv_istore (lv' := [(7, .int p0), (6, .int 3), (0, .ref a0), (1, .int p0), (2, .int p1), (3, .int p2), (4, .int p3), (5, .int p4)]) hx hb dX10_feed_71 hl (by decide) rfl (fun ls hl => ?_)
  refine lv_aload_n hx hb dX10_feed_73 rfl (lv_at hl 2 rfl) ?_
  refine va_get (D := (dC, dI)) (ci := 10) (v := .ref a1) (C := RX10) (T := TX10) (N := 67) hx hb hts iwX10 hown hK hP 1 rfl rfl 0 (by decide) (hts _ mw_1176) (fun _ h9 => h9) rfl dX10_feed_74 ?_
  refine lv_aload_n hx hb dX10_feed_77 rfl (lv_at hl 2 rfl) ?_
  refine va_get (D := (dC, dI)) (ci := 10) (v := .int 0) (C := RX10) (T := TX10) (N := 67) hx hb hts iwX10 hown hK hP 1 rfl rfl 2 (by decide) (hts _ mw_1178) (fun _ h9 => h9) rfl dX10_feed_78 ?_
  refine lv_iload hx hb dX10_feed_81 (lv_at hl 1 rfl) ?_
  refine lv_iadd hx hb dX10_feed_83 ?_
  refine x_lit 3 (by decide) ?_
  refine lv_iload hx hb dX10_feed_84 (lv_at hl 0 rfl) ?_
  refine lv_bipush (v := 24) hx hb dX10_feed_86 (by decide) ?_
  refine lv_bipush (v := 8) hx hb dX10_feed_88 (by decide) ?_
  refine lv_iload hx hb dX10_feed_90 (lv_at hl 1 rfl) ?_
  refine lv_iconst (v := 3) hx hb dX10_feed_92 (by decide) ?_
  refine lv_iand hx hb dX10_feed_93 ?_
  refine x_lit 3 (by decide) ?_
  refine lv_imul hx hb dX10_feed_94 ?_
  refine x_lit 24 (by decide) ?_
  refine lv_isub hx hb dX10_feed_95 ?_
  refine x_lit 0 (by decide) ?_
  refine lv_ishr hx hb dX10_feed_96 ?_
  refine lv_topi (fun v_10 ev_10 => ?_)
  refine lv_i2b hx hb dX10_feed_97 rfl ?_
  refine lv_topi (fun v_11 ev_11 => ?_)
  refine xh_bast hx hb hK hP hD hS 0 0 rfl rfl (x_vp (k := 3) (by decide) (by decide) (by decide)) dX10_feed_98 (fun f_12 H locs hP hD hS => ?_)
  have hP : va_P (dC, dI) CL [(a1, .inl (k0, 1720, .inl f_12)), (a0, .inr (10, [.ref a1, .ref a2, .int 0, .int 0, .int 0, .int (-1), .int 0, .int 0, .int 0, .int 0, .long 0, .ref a3, .ref a4, .ref a5, .ref a6, .ref a7, .ref a8, .ref a9, .ref a10, .ref a11, .ref a12, .ref a13, .ref a14, .ref a15, .ref a16, .ref a17, .ref a18, .ref a19, .ref a20, .ref a21, .ref a22, .ref a23, .ref a24, .ref a25, .ref a26, .ref a27, .ref a28, .ref a29, .ref a30, .ref a31, .ref a32, .ref a33, .int 0, .int 0, .int 0, .int 0, .int 0, .ref a34, .ref a35, .ref a36, .ref a37, .ref a38, .ref a39, .ref a40, .ref a41, .ref a42, .ref a43, .ref a44, .int 0, .int 0, .ref a45, .ref a46, .ref a47, .ref a48, .ref a49, .ref a50, .ref a51]))] H := hP
  have hD : va_D A [(a1, .inl (k0, 1720, .inl f_12)), (a0, .inr (10, [.ref a1, .ref a2, .int 0, .int 0, .int 0, .int (-1), .int 0, .int 0, .int 0, .int 0, .long 0, .ref a3, .ref a4, .ref a5, .ref a6, .ref a7, .ref a8, .ref a9, .ref a10, .ref a11, .ref a12, .ref a13, .ref a14, .ref a15, .ref a16, .ref a17, .ref a18, .ref a19, .ref a20, .ref a21, .ref a22, .ref a23, .ref a24, .ref a25, .ref a26, .ref a27, .ref a28, .ref a29, .ref a30, .ref a31, .ref a32, .ref a33, .int 0, .int 0, .int 0, .int 0, .int 0, .ref a34, .ref a35, .ref a36, .ref a37, .ref a38, .ref a39, .ref a40, .ref a41, .ref a42, .ref a43, .ref a44, .int 0, .int 0, .ref a45, .ref a46, .ref a47, .ref a48, .ref a49, .ref a50, .ref a51]))] := hD
  refine lv_iinc (v := 4) (lv' := [(6, .int 4), (7, .int p0), (0, .ref a0), (1, .int p0), (2, .int p1), (3, .int p2), (4, .int p3), (5, .int p4)]) hx hb dX10_feed_99 hl (k := 1) rfl (by decide) (by decide) rfl (fun ls hl => ?_)
  refine lv_goto (tgt := 18) hx hb dX10_feed_102 (by decide) ?_
  refine lv_iload hx hb dX10_feed_18 (lv_at hl 0 rfl) ?_
  refine lv_bipush (v := 20) hx hb dX10_feed_20 (by decide) ?_
  refine lv_icmp_ge (tgt := 105) hx hb dX10_feed_22 (by decide) (fun h => absurd h (by decide)) (fun _ => ?_)
  refine lv_iload hx hb dX10_feed_25 (lv_at hl 0 rfl) ?_
  refine lv_iconst (v := 4) hx hb dX10_feed_27 (by decide) ?_
  refine lv_icmp_ge (tgt := 35) hx hb dX10_feed_28 (by decide) (fun _ => ?_) (fun h => (h (by decide)).elim)
  refine lv_iload hx hb dX10_feed_35 (lv_at hl 0 rfl) ?_
  refine lv_bipush (v := 8) hx hb dX10_feed_37 (by decide) ?_
  refine lv_icmp_ge (tgt := 46) hx hb dX10_feed_39 (by decide) (fun h => absurd h (by decide)) (fun _ => ?_)
  refine lv_iload_n hx hb dX10_feed_42 rfl (lv_at hl 4 rfl) ?_
  refine lv_goto (tgt := 71) hx hb dX10_feed_43 (by decide) ?_
  refine lv_istore (lv' := [(7, .int p1), (6, .int 4), (0, .ref a0), (1, .int p0), (2, .int p1), (3, .int p2), (4, .int p3), (5, .int p4)]) hx hb dX10_feed_71 hl (by decide) rfl (fun ls hl => ?_)
  refine lv_aload_n hx hb dX10_feed_73 rfl (lv_at hl 2 rfl) ?_
  refine va_get (D := (dC, dI)) (ci := 10) (v := .ref a1) (C := RX10) (T := TX10) (N := 67) hx hb hts iwX10 hown hK hP 1 rfl rfl 0 (by decide) (hts _ mw_1176) (fun _ h9 => h9) rfl dX10_feed_74 ?_
  refine lv_aload_n hx hb dX10_feed_77 rfl (lv_at hl 2 rfl) ?_
  refine va_get (D := (dC, dI)) (ci := 10) (v := .int 0) (C := RX10) (T := TX10) (N := 67) hx hb hts iwX10 hown hK hP 1 rfl rfl 2 (by decide) (hts _ mw_1178) (fun _ h9 => h9) rfl dX10_feed_78 ?_
  refine lv_iload hx hb dX10_feed_81 (lv_at hl 1 rfl) ?_
  refine lv_iadd hx hb dX10_feed_83 ?_
  refine x_lit 4 (by decide) ?_
  refine lv_iload hx hb dX10_feed_84 (lv_at hl 0 rfl) ?_
  refine lv_bipush (v := 24) hx hb dX10_feed_86 (by decide) ?_
  refine lv_bipush (v := 8) hx hb dX10_feed_88 (by decide) ?_
  refine lv_iload hx hb dX10_feed_90 (lv_at hl 1 rfl) ?_
  refine lv_iconst (v := 3) hx hb dX10_feed_92 (by decide) ?_
  refine lv_iand hx hb dX10_feed_93 ?_
  refine x_lit 0 (by decide) ?_
  refine lv_imul hx hb dX10_feed_94 ?_
  refine x_lit 0 (by decide) ?_
  refine lv_isub hx hb dX10_feed_95 ?_
  refine x_lit 24 (by decide) ?_
  refine lv_ishr hx hb dX10_feed_96 ?_
  refine lv_topi (fun v_13 ev_13 => ?_)
  refine lv_i2b hx hb dX10_feed_97 rfl ?_
  refine lv_topi (fun v_14 ev_14 => ?_)
  refine xh_bast hx hb hK hP hD hS 0 0 rfl rfl (x_vp (k := 4) (by decide) (by decide) (by decide)) dX10_feed_98 (fun f_15 H locs hP hD hS => ?_)
  have hP : va_P (dC, dI) CL [(a1, .inl (k0, 1720, .inl f_15)), (a0, .inr (10, [.ref a1, .ref a2, .int 0, .int 0, .int 0, .int (-1), .int 0, .int 0, .int 0, .int 0, .long 0, .ref a3, .ref a4, .ref a5, .ref a6, .ref a7, .ref a8, .ref a9, .ref a10, .ref a11, .ref a12, .ref a13, .ref a14, .ref a15, .ref a16, .ref a17, .ref a18, .ref a19, .ref a20, .ref a21, .ref a22, .ref a23, .ref a24, .ref a25, .ref a26, .ref a27, .ref a28, .ref a29, .ref a30, .ref a31, .ref a32, .ref a33, .int 0, .int 0, .int 0, .int 0, .int 0, .ref a34, .ref a35, .ref a36, .ref a37, .ref a38, .ref a39, .ref a40, .ref a41, .ref a42, .ref a43, .ref a44, .int 0, .int 0, .ref a45, .ref a46, .ref a47, .ref a48, .ref a49, .ref a50, .ref a51]))] H := hP
  have hD : va_D A [(a1, .inl (k0, 1720, .inl f_15)), (a0, .inr (10, [.ref a1, .ref a2, .int 0, .int 0, .int 0, .int (-1), .int 0, .int 0, .int 0, .int 0, .long 0, .ref a3, .ref a4, .ref a5, .ref a6, .ref a7, .ref a8, .ref a9, .ref a10, .ref a11, .ref a12, .ref a13, .ref a14, .ref a15, .ref a16, .ref a17, .ref a18, .ref a19, .ref a20, .ref a21, .ref a22, .ref a23, .ref a24, .ref a25, .ref a26, .ref a27, .ref a28, .ref a29, .ref a30, .ref a31, .ref a32, .ref a33, .int 0, .int 0, .int 0, .int 0, .int 0, .ref a34, .ref a35, .ref a36, .ref a37, .ref a38, .ref a39, .ref a40, .ref a41, .ref a42, .ref a43, .ref a44, .int 0, .int 0, .ref a45, .ref a46, .ref a47, .ref a48, .ref a49, .ref a50, .ref a51]))] := hD
  refine lv_iinc (v := 5) (lv' := [(6, .int 5), (7, .int p1), (0, .ref a0), (1, .int p0), (2, .int p1), (3, .int p2), (4, .int p3), (5, .int p4)]) hx hb dX10_feed_99 hl (k := 1) rfl (by decide) (by decide) rfl (fun ls hl => ?_)
  refine lv_goto (tgt := 18) hx hb dX10_feed_102 (by decide) ?_
  refine lv_iload hx hb dX10_feed_18 (lv_at hl 0 rfl) ?_
  refine lv_bipush (v := 20) hx hb dX10_feed_20 (by decide) ?_
  refine lv_icmp_ge (tgt := 105) hx hb dX10_feed_22 (by decide) (fun h => absurd h (by decide)) (fun _ => ?_)
  refine lv_iload hx hb dX10_feed_25 (lv_at hl 0 rfl) ?_
  refine lv_iconst (v := 4) hx hb dX10_feed_27 (by decide) ?_
  refine lv_icmp_ge (tgt := 35) hx hb dX10_feed_28 (by decide) (fun _ => ?_) (fun h => (h (by decide)).elim)
  refine lv_iload hx hb dX10_feed_35 (lv_at hl 0 rfl) ?_
  refine lv_bipush (v := 8) hx hb dX10_feed_37 (by decide) ?_
  refine lv_icmp_ge (tgt := 46) hx hb dX10_feed_39 (by decide) (fun h => absurd h (by decide)) (fun _ => ?_)
  refine lv_iload_n hx hb dX10_feed_42 rfl (lv_at hl 4 rfl) ?_
  refine lv_goto (tgt := 71) hx hb dX10_feed_43 (by decide) ?_
  refine lv_istore (lv' := [(7, .int p1), (6, .int 5), (0, .ref a0), (1, .int p0), (2, .int p1), (3, .int p2), (4, .int p3), (5, .int p4)]) hx hb dX10_feed_71 hl (by decide) rfl (fun ls hl => ?_)
  refine lv_aload_n hx hb dX10_feed_73 rfl (lv_at hl 2 rfl) ?_
  refine va_get (D := (dC, dI)) (ci := 10) (v := .ref a1) (C := RX10) (T := TX10) (N := 67) hx hb hts iwX10 hown hK hP 1 rfl rfl 0 (by decide) (hts _ mw_1176) (fun _ h9 => h9) rfl dX10_feed_74 ?_
  refine lv_aload_n hx hb dX10_feed_77 rfl (lv_at hl 2 rfl) ?_
  refine va_get (D := (dC, dI)) (ci := 10) (v := .int 0) (C := RX10) (T := TX10) (N := 67) hx hb hts iwX10 hown hK hP 1 rfl rfl 2 (by decide) (hts _ mw_1178) (fun _ h9 => h9) rfl dX10_feed_78 ?_
  refine lv_iload hx hb dX10_feed_81 (lv_at hl 1 rfl) ?_
  refine lv_iadd hx hb dX10_feed_83 ?_
  refine x_lit 5 (by decide) ?_
  refine lv_iload hx hb dX10_feed_84 (lv_at hl 0 rfl) ?_
  refine lv_bipush (v := 24) hx hb dX10_feed_86 (by decide) ?_
  refine lv_bipush (v := 8) hx hb dX10_feed_88 (by decide) ?_
  refine lv_iload hx hb dX10_feed_90 (lv_at hl 1 rfl) ?_
  refine lv_iconst (v := 3) hx hb dX10_feed_92 (by decide) ?_
  refine lv_iand hx hb dX10_feed_93 ?_
  refine x_lit 1 (by decide) ?_
  refine lv_imul hx hb dX10_feed_94 ?_
  refine x_lit 8 (by decide) ?_
  refine lv_isub hx hb dX10_feed_95 ?_
  refine x_lit 16 (by decide) ?_
  refine lv_ishr hx hb dX10_feed_96 ?_
  refine lv_topi (fun v_16 ev_16 => ?_)
  refine lv_i2b hx hb dX10_feed_97 rfl ?_
  refine lv_topi (fun v_17 ev_17 => ?_)
  refine xh_bast hx hb hK hP hD hS 0 0 rfl rfl (x_vp (k := 5) (by decide) (by decide) (by decide)) dX10_feed_98 (fun f_18 H locs hP hD hS => ?_)
  have hP : va_P (dC, dI) CL [(a1, .inl (k0, 1720, .inl f_18)), (a0, .inr (10, [.ref a1, .ref a2, .int 0, .int 0, .int 0, .int (-1), .int 0, .int 0, .int 0, .int 0, .long 0, .ref a3, .ref a4, .ref a5, .ref a6, .ref a7, .ref a8, .ref a9, .ref a10, .ref a11, .ref a12, .ref a13, .ref a14, .ref a15, .ref a16, .ref a17, .ref a18, .ref a19, .ref a20, .ref a21, .ref a22, .ref a23, .ref a24, .ref a25, .ref a26, .ref a27, .ref a28, .ref a29, .ref a30, .ref a31, .ref a32, .ref a33, .int 0, .int 0, .int 0, .int 0, .int 0, .ref a34, .ref a35, .ref a36, .ref a37, .ref a38, .ref a39, .ref a40, .ref a41, .ref a42, .ref a43, .ref a44, .int 0, .int 0, .ref a45, .ref a46, .ref a47, .ref a48, .ref a49, .ref a50, .ref a51]))] H := hP
  have hD : va_D A [(a1, .inl (k0, 1720, .inl f_18)), (a0, .inr (10, [.ref a1, .ref a2, .int 0, .int 0, .int 0, .int (-1), .int 0, .int 0, .int 0, .int 0, .long 0, .ref a3, .ref a4, .ref a5, .ref a6, .ref a7, .ref a8, .ref a9, .ref a10, .ref a11, .ref a12, .ref a13, .ref a14, .ref a15, .ref a16, .ref a17, .ref a18, .ref a19, .ref a20, .ref a21, .ref a22, .ref a23, .ref a24, .ref a25, .ref a26, .ref a27, .ref a28, .ref a29, .ref a30, .ref a31, .ref a32, .ref a33, .int 0, .int 0, .int 0, .int 0, .int 0, .ref a34, .ref a35, .ref a36, .ref a37, .ref a38, .ref a39, .ref a40, .ref a41, .ref a42, .ref a43, .ref a44, .int 0, .int 0, .ref a45, .ref a46, .ref a47, .ref a48, .ref a49, .ref a50, .ref a51]))] := hD
  refine lv_iinc (v := 6) (lv' := [(6, .int 6), (7, .int p1), (0, .ref a0), (1, .int p0), (2, .int p1), (3, .int p2), (4, .int p3), (5, .int p4)]) hx hb dX10_feed_99 hl (k := 1) rfl (by decide) (by decide) rfl (fun ls hl => ?_)
  refine lv_goto (tgt := 18) hx hb dX10_feed_102 (by decide) ?_
  refine lv_iload hx hb dX10_feed_18 (lv_at hl 0 rfl) ?_
  refine lv_bipush (v := 20) hx hb dX10_feed_20 (by decide) ?_
  refine lv_icmp_ge (tgt := 105) hx hb dX10_feed_22 (by decide) (fun h => absurd h (by decide)) (fun _ => ?_)
  refine lv_iload hx hb dX10_feed_25 (lv_at hl 0 rfl) ?_
  refine lv_iconst (v := 4) hx hb dX10_feed_27 (by decide) ?_
  refine lv_icmp_ge (tgt := 35) hx hb dX10_feed_28 (by decide) (fun _ => ?_) (fun h => (h (by decide)).elim)
  refine lv_iload hx hb dX10_feed_35 (lv_at hl 0 rfl) ?_
  refine lv_bipush (v := 8) hx hb dX10_feed_37 (by decide) ?_
  refine lv_icmp_ge (tgt := 46) hx hb dX10_feed_39 (by decide) (fun h => absurd h (by decide)) (fun _ => ?_)
  refine lv_iload_n hx hb dX10_feed_42 rfl (lv_at hl 4 rfl) ?_
  refine lv_goto (tgt := 71) hx hb dX10_feed_43 (by decide) ?_
  refine lv_istore (lv' := [(7, .int p1), (6, .int 6), (0, .ref a0), (1, .int p0), (2, .int p1), (3, .int p2), (4, .int p3), (5, .int p4)]) hx hb dX10_feed_71 hl (by decide) rfl (fun ls hl => ?_)
  refine lv_aload_n hx hb dX10_feed_73 rfl (lv_at hl 2 rfl) ?_
  refine va_get (D := (dC, dI)) (ci := 10) (v := .ref a1) (C := RX10) (T := TX10) (N := 67) hx hb hts iwX10 hown hK hP 1 rfl rfl 0 (by decide) (hts _ mw_1176) (fun _ h9 => h9) rfl dX10_feed_74 ?_
  refine lv_aload_n hx hb dX10_feed_77 rfl (lv_at hl 2 rfl) ?_
  refine va_get (D := (dC, dI)) (ci := 10) (v := .int 0) (C := RX10) (T := TX10) (N := 67) hx hb hts iwX10 hown hK hP 1 rfl rfl 2 (by decide) (hts _ mw_1178) (fun _ h9 => h9) rfl dX10_feed_78 ?_
  refine lv_iload hx hb dX10_feed_81 (lv_at hl 1 rfl) ?_
  refine lv_iadd hx hb dX10_feed_83 ?_
  refine x_lit 6 (by decide) ?_
  refine lv_iload hx hb dX10_feed_84 (lv_at hl 0 rfl) ?_
  refine lv_bipush (v := 24) hx hb dX10_feed_86 (by decide) ?_
  refine lv_bipush (v := 8) hx hb dX10_feed_88 (by decide) ?_
  refine lv_iload hx hb dX10_feed_90 (lv_at hl 1 rfl) ?_
  refine lv_iconst (v := 3) hx hb dX10_feed_92 (by decide) ?_
  refine lv_iand hx hb dX10_feed_93 ?_
  refine x_lit 2 (by decide) ?_
  refine lv_imul hx hb dX10_feed_94 ?_
  refine x_lit 16 (by decide) ?_
  refine lv_isub hx hb dX10_feed_95 ?_
  refine x_lit 8 (by decide) ?_
  refine lv_ishr hx hb dX10_feed_96 ?_
  refine lv_topi (fun v_19 ev_19 => ?_)
  refine lv_i2b hx hb dX10_feed_97 rfl ?_
  refine lv_topi (fun v_20 ev_20 => ?_)
  refine xh_bast hx hb hK hP hD hS 0 0 rfl rfl (x_vp (k := 6) (by decide) (by decide) (by decide)) dX10_feed_98 (fun f_21 H locs hP hD hS => ?_)
  have hP : va_P (dC, dI) CL [(a1, .inl (k0, 1720, .inl f_21)), (a0, .inr (10, [.ref a1, .ref a2, .int 0, .int 0, .int 0, .int (-1), .int 0, .int 0, .int 0, .int 0, .long 0, .ref a3, .ref a4, .ref a5, .ref a6, .ref a7, .ref a8, .ref a9, .ref a10, .ref a11, .ref a12, .ref a13, .ref a14, .ref a15, .ref a16, .ref a17, .ref a18, .ref a19, .ref a20, .ref a21, .ref a22, .ref a23, .ref a24, .ref a25, .ref a26, .ref a27, .ref a28, .ref a29, .ref a30, .ref a31, .ref a32, .ref a33, .int 0, .int 0, .int 0, .int 0, .int 0, .ref a34, .ref a35, .ref a36, .ref a37, .ref a38, .ref a39, .ref a40, .ref a41, .ref a42, .ref a43, .ref a44, .int 0, .int 0, .ref a45, .ref a46, .ref a47, .ref a48, .ref a49, .ref a50, .ref a51]))] H := hP
  have hD : va_D A [(a1, .inl (k0, 1720, .inl f_21)), (a0, .inr (10, [.ref a1, .ref a2, .int 0, .int 0, .int 0, .int (-1), .int 0, .int 0, .int 0, .int 0, .long 0, .ref a3, .ref a4, .ref a5, .ref a6, .ref a7, .ref a8, .ref a9, .ref a10, .ref a11, .ref a12, .ref a13, .ref a14, .ref a15, .ref a16, .ref a17, .ref a18, .ref a19, .ref a20, .ref a21, .ref a22, .ref a23, .ref a24, .ref a25, .ref a26, .ref a27, .ref a28, .ref a29, .ref a30, .ref a31, .ref a32, .ref a33, .int 0, .int 0, .int 0, .int 0, .int 0, .ref a34, .ref a35, .ref a36, .ref a37, .ref a38, .ref a39, .ref a40, .ref a41, .ref a42, .ref a43, .ref a44, .int 0, .int 0, .ref a45, .ref a46, .ref a47, .ref a48, .ref a49, .ref a50, .ref a51]))] := hD
  refine lv_iinc (v := 7) (lv' := [(6, .int 7), (7, .int p1), (0, .ref a0), (1, .int p0), (2, .int p1), (3, .int p2), (4, .int p3), (5, .int p4)]) hx hb dX10_feed_99 hl (k := 1) rfl (by decide) (by decide) rfl (fun ls hl => ?_)
  refine lv_goto (tgt := 18) hx hb dX10_feed_102 (by decide) ?_
  refine lv_iload hx hb dX10_feed_18 (lv_at hl 0 rfl) ?_
  refine lv_bipush (v := 20) hx hb dX10_feed_20 (by decide) ?_
  refine lv_icmp_ge (tgt := 105) hx hb dX10_feed_22 (by decide) (fun h => absurd h (by decide)) (fun _ => ?_)
  refine lv_iload hx hb dX10_feed_25 (lv_at hl 0 rfl) ?_
  refine lv_iconst (v := 4) hx hb dX10_feed_27 (by decide) ?_
  refine lv_icmp_ge (tgt := 35) hx hb dX10_feed_28 (by decide) (fun _ => ?_) (fun h => (h (by decide)).elim)
  refine lv_iload hx hb dX10_feed_35 (lv_at hl 0 rfl) ?_
  refine lv_bipush (v := 8) hx hb dX10_feed_37 (by decide) ?_
  refine lv_icmp_ge (tgt := 46) hx hb dX10_feed_39 (by decide) (fun h => absurd h (by decide)) (fun _ => ?_)
  refine lv_iload_n hx hb dX10_feed_42 rfl (lv_at hl 4 rfl) ?_
  refine lv_goto (tgt := 71) hx hb dX10_feed_43 (by decide) ?_
  refine lv_istore (lv' := [(7, .int p1), (6, .int 7), (0, .ref a0), (1, .int p0), (2, .int p1), (3, .int p2), (4, .int p3), (5, .int p4)]) hx hb dX10_feed_71 hl (by decide) rfl (fun ls hl => ?_)
  refine lv_aload_n hx hb dX10_feed_73 rfl (lv_at hl 2 rfl) ?_
  refine va_get (D := (dC, dI)) (ci := 10) (v := .ref a1) (C := RX10) (T := TX10) (N := 67) hx hb hts iwX10 hown hK hP 1 rfl rfl 0 (by decide) (hts _ mw_1176) (fun _ h9 => h9) rfl dX10_feed_74 ?_
  refine lv_aload_n hx hb dX10_feed_77 rfl (lv_at hl 2 rfl) ?_
  refine va_get (D := (dC, dI)) (ci := 10) (v := .int 0) (C := RX10) (T := TX10) (N := 67) hx hb hts iwX10 hown hK hP 1 rfl rfl 2 (by decide) (hts _ mw_1178) (fun _ h9 => h9) rfl dX10_feed_78 ?_
  refine lv_iload hx hb dX10_feed_81 (lv_at hl 1 rfl) ?_
  refine lv_iadd hx hb dX10_feed_83 ?_
  refine x_lit 7 (by decide) ?_
  refine lv_iload hx hb dX10_feed_84 (lv_at hl 0 rfl) ?_
  refine lv_bipush (v := 24) hx hb dX10_feed_86 (by decide) ?_
  refine lv_bipush (v := 8) hx hb dX10_feed_88 (by decide) ?_
  refine lv_iload hx hb dX10_feed_90 (lv_at hl 1 rfl) ?_
  refine lv_iconst (v := 3) hx hb dX10_feed_92 (by decide) ?_
  refine lv_iand hx hb dX10_feed_93 ?_
  refine x_lit 3 (by decide) ?_
  refine lv_imul hx hb dX10_feed_94 ?_
  refine x_lit 24 (by decide) ?_
  refine lv_isub hx hb dX10_feed_95 ?_
  refine x_lit 0 (by decide) ?_
  refine lv_ishr hx hb dX10_feed_96 ?_
  refine lv_topi (fun v_22 ev_22 => ?_)
  refine lv_i2b hx hb dX10_feed_97 rfl ?_
  refine lv_topi (fun v_23 ev_23 => ?_)
  refine xh_bast hx hb hK hP hD hS 0 0 rfl rfl (x_vp (k := 7) (by decide) (by decide) (by decide)) dX10_feed_98 (fun f_24 H locs hP hD hS => ?_)
  have hP : va_P (dC, dI) CL [(a1, .inl (k0, 1720, .inl f_24)), (a0, .inr (10, [.ref a1, .ref a2, .int 0, .int 0, .int 0, .int (-1), .int 0, .int 0, .int 0, .int 0, .long 0, .ref a3, .ref a4, .ref a5, .ref a6, .ref a7, .ref a8, .ref a9, .ref a10, .ref a11, .ref a12, .ref a13, .ref a14, .ref a15, .ref a16, .ref a17, .ref a18, .ref a19, .ref a20, .ref a21, .ref a22, .ref a23, .ref a24, .ref a25, .ref a26, .ref a27, .ref a28, .ref a29, .ref a30, .ref a31, .ref a32, .ref a33, .int 0, .int 0, .int 0, .int 0, .int 0, .ref a34, .ref a35, .ref a36, .ref a37, .ref a38, .ref a39, .ref a40, .ref a41, .ref a42, .ref a43, .ref a44, .int 0, .int 0, .ref a45, .ref a46, .ref a47, .ref a48, .ref a49, .ref a50, .ref a51]))] H := hP
  have hD : va_D A [(a1, .inl (k0, 1720, .inl f_24)), (a0, .inr (10, [.ref a1, .ref a2, .int 0, .int 0, .int 0, .int (-1), .int 0, .int 0, .int 0, .int 0, .long 0, .ref a3, .ref a4, .ref a5, .ref a6, .ref a7, .ref a8, .ref a9, .ref a10, .ref a11, .ref a12, .ref a13, .ref a14, .ref a15, .ref a16, .ref a17, .ref a18, .ref a19, .ref a20, .ref a21, .ref a22, .ref a23, .ref a24, .ref a25, .ref a26, .ref a27, .ref a28, .ref a29, .ref a30, .ref a31, .ref a32, .ref a33, .int 0, .int 0, .int 0, .int 0, .int 0, .ref a34, .ref a35, .ref a36, .ref a37, .ref a38, .ref a39, .ref a40, .ref a41, .ref a42, .ref a43, .ref a44, .int 0, .int 0, .ref a45, .ref a46, .ref a47, .ref a48, .ref a49, .ref a50, .ref a51]))] := hD
  refine lv_iinc (v := 8) (lv' := [(6, .int 8), (7, .int p1), (0, .ref a0), (1, .int p0), (2, .int p1), (3, .int p2), (4, .int p3), (5, .int p4)]) hx hb dX10_feed_99 hl (k := 1) rfl (by decide) (by decide) rfl (fun ls hl => ?_)
  refine lv_goto (tgt := 18) hx hb dX10_feed_102 (by decide) ?_
  refine lv_iload hx hb dX10_feed_18 (lv_at hl 0 rfl) ?_
  refine lv_bipush (v := 20) hx hb dX10_feed_20 (by decide) ?_
  refine lv_icmp_ge (tgt := 105) hx hb dX10_feed_22 (by decide) (fun h => absurd h (by decide)) (fun _ => ?_)
  refine lv_iload hx hb dX10_feed_25 (lv_at hl 0 rfl) ?_
  refine lv_iconst (v := 4) hx hb dX10_feed_27 (by decide) ?_
  refine lv_icmp_ge (tgt := 35) hx hb dX10_feed_28 (by decide) (fun _ => ?_) (fun h => (h (by decide)).elim)
  refine lv_iload hx hb dX10_feed_35 (lv_at hl 0 rfl) ?_
  refine lv_bipush (v := 8) hx hb dX10_feed_37 (by decide) ?_
  refine lv_icmp_ge (tgt := 46) hx hb dX10_feed_39 (by decide) (fun _ => ?_) (fun h => (h (by decide)).elim)
  refine lv_iload hx hb dX10_feed_46 (lv_at hl 0 rfl) ?_
  refine lv_bipush (v := 12) hx hb dX10_feed_48 (by decide) ?_
  refine lv_icmp_ge (tgt := 57) hx hb dX10_feed_50 (by decide) (fun h => absurd h (by decide)) (fun _ => ?_)
  refine lv_iload_n hx hb dX10_feed_53 rfl (lv_at hl 5 rfl) ?_
  refine lv_goto (tgt := 71) hx hb dX10_feed_54 (by decide) ?_
  refine lv_istore (lv' := [(7, .int p2), (6, .int 8), (0, .ref a0), (1, .int p0), (2, .int p1), (3, .int p2), (4, .int p3), (5, .int p4)]) hx hb dX10_feed_71 hl (by decide) rfl (fun ls hl => ?_)
  refine lv_aload_n hx hb dX10_feed_73 rfl (lv_at hl 2 rfl) ?_
  refine va_get (D := (dC, dI)) (ci := 10) (v := .ref a1) (C := RX10) (T := TX10) (N := 67) hx hb hts iwX10 hown hK hP 1 rfl rfl 0 (by decide) (hts _ mw_1176) (fun _ h9 => h9) rfl dX10_feed_74 ?_
  refine lv_aload_n hx hb dX10_feed_77 rfl (lv_at hl 2 rfl) ?_
  refine va_get (D := (dC, dI)) (ci := 10) (v := .int 0) (C := RX10) (T := TX10) (N := 67) hx hb hts iwX10 hown hK hP 1 rfl rfl 2 (by decide) (hts _ mw_1178) (fun _ h9 => h9) rfl dX10_feed_78 ?_
  refine lv_iload hx hb dX10_feed_81 (lv_at hl 1 rfl) ?_
  refine lv_iadd hx hb dX10_feed_83 ?_
  refine x_lit 8 (by decide) ?_
  refine lv_iload hx hb dX10_feed_84 (lv_at hl 0 rfl) ?_
  refine lv_bipush (v := 24) hx hb dX10_feed_86 (by decide) ?_
  refine lv_bipush (v := 8) hx hb dX10_feed_88 (by decide) ?_
  refine lv_iload hx hb dX10_feed_90 (lv_at hl 1 rfl) ?_
  refine lv_iconst (v := 3) hx hb dX10_feed_92 (by decide) ?_
  refine lv_iand hx hb dX10_feed_93 ?_
  refine x_lit 0 (by decide) ?_
  refine lv_imul hx hb dX10_feed_94 ?_
  refine x_lit 0 (by decide) ?_
  refine lv_isub hx hb dX10_feed_95 ?_
  refine x_lit 24 (by decide) ?_
  refine lv_ishr hx hb dX10_feed_96 ?_
  refine lv_topi (fun v_25 ev_25 => ?_)
  refine lv_i2b hx hb dX10_feed_97 rfl ?_
  refine lv_topi (fun v_26 ev_26 => ?_)
  refine xh_bast hx hb hK hP hD hS 0 0 rfl rfl (x_vp (k := 8) (by decide) (by decide) (by decide)) dX10_feed_98 (fun f_27 H locs hP hD hS => ?_)
  have hP : va_P (dC, dI) CL [(a1, .inl (k0, 1720, .inl f_27)), (a0, .inr (10, [.ref a1, .ref a2, .int 0, .int 0, .int 0, .int (-1), .int 0, .int 0, .int 0, .int 0, .long 0, .ref a3, .ref a4, .ref a5, .ref a6, .ref a7, .ref a8, .ref a9, .ref a10, .ref a11, .ref a12, .ref a13, .ref a14, .ref a15, .ref a16, .ref a17, .ref a18, .ref a19, .ref a20, .ref a21, .ref a22, .ref a23, .ref a24, .ref a25, .ref a26, .ref a27, .ref a28, .ref a29, .ref a30, .ref a31, .ref a32, .ref a33, .int 0, .int 0, .int 0, .int 0, .int 0, .ref a34, .ref a35, .ref a36, .ref a37, .ref a38, .ref a39, .ref a40, .ref a41, .ref a42, .ref a43, .ref a44, .int 0, .int 0, .ref a45, .ref a46, .ref a47, .ref a48, .ref a49, .ref a50, .ref a51]))] H := hP
  have hD : va_D A [(a1, .inl (k0, 1720, .inl f_27)), (a0, .inr (10, [.ref a1, .ref a2, .int 0, .int 0, .int 0, .int (-1), .int 0, .int 0, .int 0, .int 0, .long 0, .ref a3, .ref a4, .ref a5, .ref a6, .ref a7, .ref a8, .ref a9, .ref a10, .ref a11, .ref a12, .ref a13, .ref a14, .ref a15, .ref a16, .ref a17, .ref a18, .ref a19, .ref a20, .ref a21, .ref a22, .ref a23, .ref a24, .ref a25, .ref a26, .ref a27, .ref a28, .ref a29, .ref a30, .ref a31, .ref a32, .ref a33, .int 0, .int 0, .int 0, .int 0, .int 0, .ref a34, .ref a35, .ref a36, .ref a37, .ref a38, .ref a39, .ref a40, .ref a41, .ref a42, .ref a43, .ref a44, .int 0, .int 0, .ref a45, .ref a46, .ref a47, .ref a48, .ref a49, .ref a50, .ref a51]))] := hD
  refine lv_iinc (v := 9) (lv' := [(6, .int 9), (7, .int p2), (0, .ref a0), (1, .int p0), (2, .int p1), (3, .int p2), (4, .int p3), (5, .int p4)]) hx hb dX10_feed_99 hl (k := 1) rfl (by decide) (by decide) rfl (fun ls hl => ?_)
  refine lv_goto (tgt := 18) hx hb dX10_feed_102 (by decide) ?_
  refine lv_iload hx hb dX10_feed_18 (lv_at hl 0 rfl) ?_
  refine lv_bipush (v := 20) hx hb dX10_feed_20 (by decide) ?_
  refine lv_icmp_ge (tgt := 105) hx hb dX10_feed_22 (by decide) (fun h => absurd h (by decide)) (fun _ => ?_)
  refine lv_iload hx hb dX10_feed_25 (lv_at hl 0 rfl) ?_
  refine lv_iconst (v := 4) hx hb dX10_feed_27 (by decide) ?_
  refine lv_icmp_ge (tgt := 35) hx hb dX10_feed_28 (by decide) (fun _ => ?_) (fun h => (h (by decide)).elim)
  refine lv_iload hx hb dX10_feed_35 (lv_at hl 0 rfl) ?_
  refine lv_bipush (v := 8) hx hb dX10_feed_37 (by decide) ?_
  refine lv_icmp_ge (tgt := 46) hx hb dX10_feed_39 (by decide) (fun _ => ?_) (fun h => (h (by decide)).elim)
  refine lv_iload hx hb dX10_feed_46 (lv_at hl 0 rfl) ?_
  refine lv_bipush (v := 12) hx hb dX10_feed_48 (by decide) ?_
  refine lv_icmp_ge (tgt := 57) hx hb dX10_feed_50 (by decide) (fun h => absurd h (by decide)) (fun _ => ?_)
  refine lv_iload_n hx hb dX10_feed_53 rfl (lv_at hl 5 rfl) ?_
  refine lv_goto (tgt := 71) hx hb dX10_feed_54 (by decide) ?_
  refine lv_istore (lv' := [(7, .int p2), (6, .int 9), (0, .ref a0), (1, .int p0), (2, .int p1), (3, .int p2), (4, .int p3), (5, .int p4)]) hx hb dX10_feed_71 hl (by decide) rfl (fun ls hl => ?_)
  refine lv_aload_n hx hb dX10_feed_73 rfl (lv_at hl 2 rfl) ?_
  refine va_get (D := (dC, dI)) (ci := 10) (v := .ref a1) (C := RX10) (T := TX10) (N := 67) hx hb hts iwX10 hown hK hP 1 rfl rfl 0 (by decide) (hts _ mw_1176) (fun _ h9 => h9) rfl dX10_feed_74 ?_
  refine lv_aload_n hx hb dX10_feed_77 rfl (lv_at hl 2 rfl) ?_
  refine va_get (D := (dC, dI)) (ci := 10) (v := .int 0) (C := RX10) (T := TX10) (N := 67) hx hb hts iwX10 hown hK hP 1 rfl rfl 2 (by decide) (hts _ mw_1178) (fun _ h9 => h9) rfl dX10_feed_78 ?_
  refine lv_iload hx hb dX10_feed_81 (lv_at hl 1 rfl) ?_
  refine lv_iadd hx hb dX10_feed_83 ?_
  refine x_lit 9 (by decide) ?_
  refine lv_iload hx hb dX10_feed_84 (lv_at hl 0 rfl) ?_
  refine lv_bipush (v := 24) hx hb dX10_feed_86 (by decide) ?_
  refine lv_bipush (v := 8) hx hb dX10_feed_88 (by decide) ?_
  refine lv_iload hx hb dX10_feed_90 (lv_at hl 1 rfl) ?_
  refine lv_iconst (v := 3) hx hb dX10_feed_92 (by decide) ?_
  refine lv_iand hx hb dX10_feed_93 ?_
  refine x_lit 1 (by decide) ?_
  refine lv_imul hx hb dX10_feed_94 ?_
  refine x_lit 8 (by decide) ?_
  refine lv_isub hx hb dX10_feed_95 ?_
  refine x_lit 16 (by decide) ?_
  refine lv_ishr hx hb dX10_feed_96 ?_
  refine lv_topi (fun v_28 ev_28 => ?_)
  refine lv_i2b hx hb dX10_feed_97 rfl ?_
  refine lv_topi (fun v_29 ev_29 => ?_)
  refine xh_bast hx hb hK hP hD hS 0 0 rfl rfl (x_vp (k := 9) (by decide) (by decide) (by decide)) dX10_feed_98 (fun f_30 H locs hP hD hS => ?_)
  have hP : va_P (dC, dI) CL [(a1, .inl (k0, 1720, .inl f_30)), (a0, .inr (10, [.ref a1, .ref a2, .int 0, .int 0, .int 0, .int (-1), .int 0, .int 0, .int 0, .int 0, .long 0, .ref a3, .ref a4, .ref a5, .ref a6, .ref a7, .ref a8, .ref a9, .ref a10, .ref a11, .ref a12, .ref a13, .ref a14, .ref a15, .ref a16, .ref a17, .ref a18, .ref a19, .ref a20, .ref a21, .ref a22, .ref a23, .ref a24, .ref a25, .ref a26, .ref a27, .ref a28, .ref a29, .ref a30, .ref a31, .ref a32, .ref a33, .int 0, .int 0, .int 0, .int 0, .int 0, .ref a34, .ref a35, .ref a36, .ref a37, .ref a38, .ref a39, .ref a40, .ref a41, .ref a42, .ref a43, .ref a44, .int 0, .int 0, .ref a45, .ref a46, .ref a47, .ref a48, .ref a49, .ref a50, .ref a51]))] H := hP
  have hD : va_D A [(a1, .inl (k0, 1720, .inl f_30)), (a0, .inr (10, [.ref a1, .ref a2, .int 0, .int 0, .int 0, .int (-1), .int 0, .int 0, .int 0, .int 0, .long 0, .ref a3, .ref a4, .ref a5, .ref a6, .ref a7, .ref a8, .ref a9, .ref a10, .ref a11, .ref a12, .ref a13, .ref a14, .ref a15, .ref a16, .ref a17, .ref a18, .ref a19, .ref a20, .ref a21, .ref a22, .ref a23, .ref a24, .ref a25, .ref a26, .ref a27, .ref a28, .ref a29, .ref a30, .ref a31, .ref a32, .ref a33, .int 0, .int 0, .int 0, .int 0, .int 0, .ref a34, .ref a35, .ref a36, .ref a37, .ref a38, .ref a39, .ref a40, .ref a41, .ref a42, .ref a43, .ref a44, .int 0, .int 0, .ref a45, .ref a46, .ref a47, .ref a48, .ref a49, .ref a50, .ref a51]))] := hD
  refine lv_iinc (v := 10) (lv' := [(6, .int 10), (7, .int p2), (0, .ref a0), (1, .int p0), (2, .int p1), (3, .int p2), (4, .int p3), (5, .int p4)]) hx hb dX10_feed_99 hl (k := 1) rfl (by decide) (by decide) rfl (fun ls hl => ?_)
  refine lv_goto (tgt := 18) hx hb dX10_feed_102 (by decide) ?_
  refine lv_iload hx hb dX10_feed_18 (lv_at hl 0 rfl) ?_
  refine lv_bipush (v := 20) hx hb dX10_feed_20 (by decide) ?_
  refine lv_icmp_ge (tgt := 105) hx hb dX10_feed_22 (by decide) (fun h => absurd h (by decide)) (fun _ => ?_)
  refine lv_iload hx hb dX10_feed_25 (lv_at hl 0 rfl) ?_
  refine lv_iconst (v := 4) hx hb dX10_feed_27 (by decide) ?_
  refine lv_icmp_ge (tgt := 35) hx hb dX10_feed_28 (by decide) (fun _ => ?_) (fun h => (h (by decide)).elim)
  refine lv_iload hx hb dX10_feed_35 (lv_at hl 0 rfl) ?_
  refine lv_bipush (v := 8) hx hb dX10_feed_37 (by decide) ?_
  refine lv_icmp_ge (tgt := 46) hx hb dX10_feed_39 (by decide) (fun _ => ?_) (fun h => (h (by decide)).elim)
  refine lv_iload hx hb dX10_feed_46 (lv_at hl 0 rfl) ?_
  refine lv_bipush (v := 12) hx hb dX10_feed_48 (by decide) ?_
  refine lv_icmp_ge (tgt := 57) hx hb dX10_feed_50 (by decide) (fun h => absurd h (by decide)) (fun _ => ?_)
  refine lv_iload_n hx hb dX10_feed_53 rfl (lv_at hl 5 rfl) ?_
  refine lv_goto (tgt := 71) hx hb dX10_feed_54 (by decide) ?_
  refine lv_istore (lv' := [(7, .int p2), (6, .int 10), (0, .ref a0), (1, .int p0), (2, .int p1), (3, .int p2), (4, .int p3), (5, .int p4)]) hx hb dX10_feed_71 hl (by decide) rfl (fun ls hl => ?_)
  refine lv_aload_n hx hb dX10_feed_73 rfl (lv_at hl 2 rfl) ?_
  refine va_get (D := (dC, dI)) (ci := 10) (v := .ref a1) (C := RX10) (T := TX10) (N := 67) hx hb hts iwX10 hown hK hP 1 rfl rfl 0 (by decide) (hts _ mw_1176) (fun _ h9 => h9) rfl dX10_feed_74 ?_
  refine lv_aload_n hx hb dX10_feed_77 rfl (lv_at hl 2 rfl) ?_
  refine va_get (D := (dC, dI)) (ci := 10) (v := .int 0) (C := RX10) (T := TX10) (N := 67) hx hb hts iwX10 hown hK hP 1 rfl rfl 2 (by decide) (hts _ mw_1178) (fun _ h9 => h9) rfl dX10_feed_78 ?_
  refine lv_iload hx hb dX10_feed_81 (lv_at hl 1 rfl) ?_
  refine lv_iadd hx hb dX10_feed_83 ?_
  refine x_lit 10 (by decide) ?_
  refine lv_iload hx hb dX10_feed_84 (lv_at hl 0 rfl) ?_
  refine lv_bipush (v := 24) hx hb dX10_feed_86 (by decide) ?_
  refine lv_bipush (v := 8) hx hb dX10_feed_88 (by decide) ?_
  refine lv_iload hx hb dX10_feed_90 (lv_at hl 1 rfl) ?_
  refine lv_iconst (v := 3) hx hb dX10_feed_92 (by decide) ?_
  refine lv_iand hx hb dX10_feed_93 ?_
  refine x_lit 2 (by decide) ?_
  refine lv_imul hx hb dX10_feed_94 ?_
  refine x_lit 16 (by decide) ?_
  refine lv_isub hx hb dX10_feed_95 ?_
  refine x_lit 8 (by decide) ?_
  refine lv_ishr hx hb dX10_feed_96 ?_
  refine lv_topi (fun v_31 ev_31 => ?_)
  refine lv_i2b hx hb dX10_feed_97 rfl ?_
  refine lv_topi (fun v_32 ev_32 => ?_)
  refine xh_bast hx hb hK hP hD hS 0 0 rfl rfl (x_vp (k := 10) (by decide) (by decide) (by decide)) dX10_feed_98 (fun f_33 H locs hP hD hS => ?_)
  have hP : va_P (dC, dI) CL [(a1, .inl (k0, 1720, .inl f_33)), (a0, .inr (10, [.ref a1, .ref a2, .int 0, .int 0, .int 0, .int (-1), .int 0, .int 0, .int 0, .int 0, .long 0, .ref a3, .ref a4, .ref a5, .ref a6, .ref a7, .ref a8, .ref a9, .ref a10, .ref a11, .ref a12, .ref a13, .ref a14, .ref a15, .ref a16, .ref a17, .ref a18, .ref a19, .ref a20, .ref a21, .ref a22, .ref a23, .ref a24, .ref a25, .ref a26, .ref a27, .ref a28, .ref a29, .ref a30, .ref a31, .ref a32, .ref a33, .int 0, .int 0, .int 0, .int 0, .int 0, .ref a34, .ref a35, .ref a36, .ref a37, .ref a38, .ref a39, .ref a40, .ref a41, .ref a42, .ref a43, .ref a44, .int 0, .int 0, .ref a45, .ref a46, .ref a47, .ref a48, .ref a49, .ref a50, .ref a51]))] H := hP
  have hD : va_D A [(a1, .inl (k0, 1720, .inl f_33)), (a0, .inr (10, [.ref a1, .ref a2, .int 0, .int 0, .int 0, .int (-1), .int 0, .int 0, .int 0, .int 0, .long 0, .ref a3, .ref a4, .ref a5, .ref a6, .ref a7, .ref a8, .ref a9, .ref a10, .ref a11, .ref a12, .ref a13, .ref a14, .ref a15, .ref a16, .ref a17, .ref a18, .ref a19, .ref a20, .ref a21, .ref a22, .ref a23, .ref a24, .ref a25, .ref a26, .ref a27, .ref a28, .ref a29, .ref a30, .ref a31, .ref a32, .ref a33, .int 0, .int 0, .int 0, .int 0, .int 0, .ref a34, .ref a35, .ref a36, .ref a37, .ref a38, .ref a39, .ref a40, .ref a41, .ref a42, .ref a43, .ref a44, .int 0, .int 0, .ref a45, .ref a46, .ref a47, .ref a48, .ref a49, .ref a50, .ref a51]))] := hD
  refine lv_iinc (v := 11) (lv' := [(6, .int 11), (7, .int p2), (0, .ref a0), (1, .int p0), (2, .int p1), (3, .int p2), (4, .int p3), (5, .int p4)]) hx hb dX10_feed_99 hl (k := 1) rfl (by decide) (by decide) rfl (fun ls hl => ?_)
  refine lv_goto (tgt := 18) hx hb dX10_feed_102 (by decide) ?_
  refine lv_iload hx hb dX10_feed_18 (lv_at hl 0 rfl) ?_
  refine lv_bipush (v := 20) hx hb dX10_feed_20 (by decide) ?_
  refine lv_icmp_ge (tgt := 105) hx hb dX10_feed_22 (by decide) (fun h => absurd h (by decide)) (fun _ => ?_)
  refine lv_iload hx hb dX10_feed_25 (lv_at hl 0 rfl) ?_
  refine lv_iconst (v := 4) hx hb dX10_feed_27 (by decide) ?_
  refine lv_icmp_ge (tgt := 35) hx hb dX10_feed_28 (by decide) (fun _ => ?_) (fun h => (h (by decide)).elim)
  refine lv_iload hx hb dX10_feed_35 (lv_at hl 0 rfl) ?_
  refine lv_bipush (v := 8) hx hb dX10_feed_37 (by decide) ?_
  refine lv_icmp_ge (tgt := 46) hx hb dX10_feed_39 (by decide) (fun _ => ?_) (fun h => (h (by decide)).elim)
  refine lv_iload hx hb dX10_feed_46 (lv_at hl 0 rfl) ?_
  refine lv_bipush (v := 12) hx hb dX10_feed_48 (by decide) ?_
  refine lv_icmp_ge (tgt := 57) hx hb dX10_feed_50 (by decide) (fun h => absurd h (by decide)) (fun _ => ?_)
  refine lv_iload_n hx hb dX10_feed_53 rfl (lv_at hl 5 rfl) ?_
  refine lv_goto (tgt := 71) hx hb dX10_feed_54 (by decide) ?_
  refine lv_istore (lv' := [(7, .int p2), (6, .int 11), (0, .ref a0), (1, .int p0), (2, .int p1), (3, .int p2), (4, .int p3), (5, .int p4)]) hx hb dX10_feed_71 hl (by decide) rfl (fun ls hl => ?_)
  refine lv_aload_n hx hb dX10_feed_73 rfl (lv_at hl 2 rfl) ?_
  refine va_get (D := (dC, dI)) (ci := 10) (v := .ref a1) (C := RX10) (T := TX10) (N := 67) hx hb hts iwX10 hown hK hP 1 rfl rfl 0 (by decide) (hts _ mw_1176) (fun _ h9 => h9) rfl dX10_feed_74 ?_
  refine lv_aload_n hx hb dX10_feed_77 rfl (lv_at hl 2 rfl) ?_
  refine va_get (D := (dC, dI)) (ci := 10) (v := .int 0) (C := RX10) (T := TX10) (N := 67) hx hb hts iwX10 hown hK hP 1 rfl rfl 2 (by decide) (hts _ mw_1178) (fun _ h9 => h9) rfl dX10_feed_78 ?_
  refine lv_iload hx hb dX10_feed_81 (lv_at hl 1 rfl) ?_
  refine lv_iadd hx hb dX10_feed_83 ?_
  refine x_lit 11 (by decide) ?_
  refine lv_iload hx hb dX10_feed_84 (lv_at hl 0 rfl) ?_
  refine lv_bipush (v := 24) hx hb dX10_feed_86 (by decide) ?_
  refine lv_bipush (v := 8) hx hb dX10_feed_88 (by decide) ?_
  refine lv_iload hx hb dX10_feed_90 (lv_at hl 1 rfl) ?_
  refine lv_iconst (v := 3) hx hb dX10_feed_92 (by decide) ?_
  refine lv_iand hx hb dX10_feed_93 ?_
  refine x_lit 3 (by decide) ?_
  refine lv_imul hx hb dX10_feed_94 ?_
  refine x_lit 24 (by decide) ?_
  refine lv_isub hx hb dX10_feed_95 ?_
  refine x_lit 0 (by decide) ?_
  refine lv_ishr hx hb dX10_feed_96 ?_
  refine lv_topi (fun v_34 ev_34 => ?_)
  refine lv_i2b hx hb dX10_feed_97 rfl ?_
  refine lv_topi (fun v_35 ev_35 => ?_)
  refine xh_bast hx hb hK hP hD hS 0 0 rfl rfl (x_vp (k := 11) (by decide) (by decide) (by decide)) dX10_feed_98 (fun f_36 H locs hP hD hS => ?_)
  have hP : va_P (dC, dI) CL [(a1, .inl (k0, 1720, .inl f_36)), (a0, .inr (10, [.ref a1, .ref a2, .int 0, .int 0, .int 0, .int (-1), .int 0, .int 0, .int 0, .int 0, .long 0, .ref a3, .ref a4, .ref a5, .ref a6, .ref a7, .ref a8, .ref a9, .ref a10, .ref a11, .ref a12, .ref a13, .ref a14, .ref a15, .ref a16, .ref a17, .ref a18, .ref a19, .ref a20, .ref a21, .ref a22, .ref a23, .ref a24, .ref a25, .ref a26, .ref a27, .ref a28, .ref a29, .ref a30, .ref a31, .ref a32, .ref a33, .int 0, .int 0, .int 0, .int 0, .int 0, .ref a34, .ref a35, .ref a36, .ref a37, .ref a38, .ref a39, .ref a40, .ref a41, .ref a42, .ref a43, .ref a44, .int 0, .int 0, .ref a45, .ref a46, .ref a47, .ref a48, .ref a49, .ref a50, .ref a51]))] H := hP
  have hD : va_D A [(a1, .inl (k0, 1720, .inl f_36)), (a0, .inr (10, [.ref a1, .ref a2, .int 0, .int 0, .int 0, .int (-1), .int 0, .int 0, .int 0, .int 0, .long 0, .ref a3, .ref a4, .ref a5, .ref a6, .ref a7, .ref a8, .ref a9, .ref a10, .ref a11, .ref a12, .ref a13, .ref a14, .ref a15, .ref a16, .ref a17, .ref a18, .ref a19, .ref a20, .ref a21, .ref a22, .ref a23, .ref a24, .ref a25, .ref a26, .ref a27, .ref a28, .ref a29, .ref a30, .ref a31, .ref a32, .ref a33, .int 0, .int 0, .int 0, .int 0, .int 0, .ref a34, .ref a35, .ref a36, .ref a37, .ref a38, .ref a39, .ref a40, .ref a41, .ref a42, .ref a43, .ref a44, .int 0, .int 0, .ref a45, .ref a46, .ref a47, .ref a48, .ref a49, .ref a50, .ref a51]))] := hD
  refine lv_iinc (v := 12) (lv' := [(6, .int 12), (7, .int p2), (0, .ref a0), (1, .int p0), (2, .int p1), (3, .int p2), (4, .int p3), (5, .int p4)]) hx hb dX10_feed_99 hl (k := 1) rfl (by decide) (by decide) rfl (fun ls hl => ?_)
  refine lv_goto (tgt := 18) hx hb dX10_feed_102 (by decide) ?_
  refine lv_iload hx hb dX10_feed_18 (lv_at hl 0 rfl) ?_
  refine lv_bipush (v := 20) hx hb dX10_feed_20 (by decide) ?_
  refine lv_icmp_ge (tgt := 105) hx hb dX10_feed_22 (by decide) (fun h => absurd h (by decide)) (fun _ => ?_)
  refine lv_iload hx hb dX10_feed_25 (lv_at hl 0 rfl) ?_
  refine lv_iconst (v := 4) hx hb dX10_feed_27 (by decide) ?_
  refine lv_icmp_ge (tgt := 35) hx hb dX10_feed_28 (by decide) (fun _ => ?_) (fun h => (h (by decide)).elim)
  refine lv_iload hx hb dX10_feed_35 (lv_at hl 0 rfl) ?_
  refine lv_bipush (v := 8) hx hb dX10_feed_37 (by decide) ?_
  refine lv_icmp_ge (tgt := 46) hx hb dX10_feed_39 (by decide) (fun _ => ?_) (fun h => (h (by decide)).elim)
  refine lv_iload hx hb dX10_feed_46 (lv_at hl 0 rfl) ?_
  refine lv_bipush (v := 12) hx hb dX10_feed_48 (by decide) ?_
  refine lv_icmp_ge (tgt := 57) hx hb dX10_feed_50 (by decide) (fun _ => ?_) (fun h => (h (by decide)).elim)
  refine lv_iload hx hb dX10_feed_57 (lv_at hl 0 rfl) ?_
  refine lv_bipush (v := 16) hx hb dX10_feed_59 (by decide) ?_
  refine lv_icmp_ge (tgt := 69) hx hb dX10_feed_61 (by decide) (fun h => absurd h (by decide)) (fun _ => ?_)
  refine lv_iload hx hb dX10_feed_64 (lv_at hl 6 rfl) ?_
  refine lv_goto (tgt := 71) hx hb dX10_feed_66 (by decide) ?_
  refine lv_istore (lv' := [(7, .int p3), (6, .int 12), (0, .ref a0), (1, .int p0), (2, .int p1), (3, .int p2), (4, .int p3), (5, .int p4)]) hx hb dX10_feed_71 hl (by decide) rfl (fun ls hl => ?_)
  refine lv_aload_n hx hb dX10_feed_73 rfl (lv_at hl 2 rfl) ?_
  refine va_get (D := (dC, dI)) (ci := 10) (v := .ref a1) (C := RX10) (T := TX10) (N := 67) hx hb hts iwX10 hown hK hP 1 rfl rfl 0 (by decide) (hts _ mw_1176) (fun _ h9 => h9) rfl dX10_feed_74 ?_
  refine lv_aload_n hx hb dX10_feed_77 rfl (lv_at hl 2 rfl) ?_
  refine va_get (D := (dC, dI)) (ci := 10) (v := .int 0) (C := RX10) (T := TX10) (N := 67) hx hb hts iwX10 hown hK hP 1 rfl rfl 2 (by decide) (hts _ mw_1178) (fun _ h9 => h9) rfl dX10_feed_78 ?_
  refine lv_iload hx hb dX10_feed_81 (lv_at hl 1 rfl) ?_
  refine lv_iadd hx hb dX10_feed_83 ?_
  refine x_lit 12 (by decide) ?_
  refine lv_iload hx hb dX10_feed_84 (lv_at hl 0 rfl) ?_
  refine lv_bipush (v := 24) hx hb dX10_feed_86 (by decide) ?_
  refine lv_bipush (v := 8) hx hb dX10_feed_88 (by decide) ?_
  refine lv_iload hx hb dX10_feed_90 (lv_at hl 1 rfl) ?_
  refine lv_iconst (v := 3) hx hb dX10_feed_92 (by decide) ?_
  refine lv_iand hx hb dX10_feed_93 ?_
  refine x_lit 0 (by decide) ?_
  refine lv_imul hx hb dX10_feed_94 ?_
  refine x_lit 0 (by decide) ?_
  refine lv_isub hx hb dX10_feed_95 ?_
  refine x_lit 24 (by decide) ?_
  refine lv_ishr hx hb dX10_feed_96 ?_
  refine lv_topi (fun v_37 ev_37 => ?_)
  refine lv_i2b hx hb dX10_feed_97 rfl ?_
  refine lv_topi (fun v_38 ev_38 => ?_)
  refine xh_bast hx hb hK hP hD hS 0 0 rfl rfl (x_vp (k := 12) (by decide) (by decide) (by decide)) dX10_feed_98 (fun f_39 H locs hP hD hS => ?_)
  have hP : va_P (dC, dI) CL [(a1, .inl (k0, 1720, .inl f_39)), (a0, .inr (10, [.ref a1, .ref a2, .int 0, .int 0, .int 0, .int (-1), .int 0, .int 0, .int 0, .int 0, .long 0, .ref a3, .ref a4, .ref a5, .ref a6, .ref a7, .ref a8, .ref a9, .ref a10, .ref a11, .ref a12, .ref a13, .ref a14, .ref a15, .ref a16, .ref a17, .ref a18, .ref a19, .ref a20, .ref a21, .ref a22, .ref a23, .ref a24, .ref a25, .ref a26, .ref a27, .ref a28, .ref a29, .ref a30, .ref a31, .ref a32, .ref a33, .int 0, .int 0, .int 0, .int 0, .int 0, .ref a34, .ref a35, .ref a36, .ref a37, .ref a38, .ref a39, .ref a40, .ref a41, .ref a42, .ref a43, .ref a44, .int 0, .int 0, .ref a45, .ref a46, .ref a47, .ref a48, .ref a49, .ref a50, .ref a51]))] H := hP
  have hD : va_D A [(a1, .inl (k0, 1720, .inl f_39)), (a0, .inr (10, [.ref a1, .ref a2, .int 0, .int 0, .int 0, .int (-1), .int 0, .int 0, .int 0, .int 0, .long 0, .ref a3, .ref a4, .ref a5, .ref a6, .ref a7, .ref a8, .ref a9, .ref a10, .ref a11, .ref a12, .ref a13, .ref a14, .ref a15, .ref a16, .ref a17, .ref a18, .ref a19, .ref a20, .ref a21, .ref a22, .ref a23, .ref a24, .ref a25, .ref a26, .ref a27, .ref a28, .ref a29, .ref a30, .ref a31, .ref a32, .ref a33, .int 0, .int 0, .int 0, .int 0, .int 0, .ref a34, .ref a35, .ref a36, .ref a37, .ref a38, .ref a39, .ref a40, .ref a41, .ref a42, .ref a43, .ref a44, .int 0, .int 0, .ref a45, .ref a46, .ref a47, .ref a48, .ref a49, .ref a50, .ref a51]))] := hD
  refine lv_iinc (v := 13) (lv' := [(6, .int 13), (7, .int p3), (0, .ref a0), (1, .int p0), (2, .int p1), (3, .int p2), (4, .int p3), (5, .int p4)]) hx hb dX10_feed_99 hl (k := 1) rfl (by decide) (by decide) rfl (fun ls hl => ?_)
  refine lv_goto (tgt := 18) hx hb dX10_feed_102 (by decide) ?_
  refine lv_iload hx hb dX10_feed_18 (lv_at hl 0 rfl) ?_
  refine lv_bipush (v := 20) hx hb dX10_feed_20 (by decide) ?_
  refine lv_icmp_ge (tgt := 105) hx hb dX10_feed_22 (by decide) (fun h => absurd h (by decide)) (fun _ => ?_)
  refine lv_iload hx hb dX10_feed_25 (lv_at hl 0 rfl) ?_
  refine lv_iconst (v := 4) hx hb dX10_feed_27 (by decide) ?_
  refine lv_icmp_ge (tgt := 35) hx hb dX10_feed_28 (by decide) (fun _ => ?_) (fun h => (h (by decide)).elim)
  refine lv_iload hx hb dX10_feed_35 (lv_at hl 0 rfl) ?_
  refine lv_bipush (v := 8) hx hb dX10_feed_37 (by decide) ?_
  refine lv_icmp_ge (tgt := 46) hx hb dX10_feed_39 (by decide) (fun _ => ?_) (fun h => (h (by decide)).elim)
  refine lv_iload hx hb dX10_feed_46 (lv_at hl 0 rfl) ?_
  refine lv_bipush (v := 12) hx hb dX10_feed_48 (by decide) ?_
  refine lv_icmp_ge (tgt := 57) hx hb dX10_feed_50 (by decide) (fun _ => ?_) (fun h => (h (by decide)).elim)
  refine lv_iload hx hb dX10_feed_57 (lv_at hl 0 rfl) ?_
  refine lv_bipush (v := 16) hx hb dX10_feed_59 (by decide) ?_
  refine lv_icmp_ge (tgt := 69) hx hb dX10_feed_61 (by decide) (fun h => absurd h (by decide)) (fun _ => ?_)
  refine lv_iload hx hb dX10_feed_64 (lv_at hl 6 rfl) ?_
  refine lv_goto (tgt := 71) hx hb dX10_feed_66 (by decide) ?_
  refine lv_istore (lv' := [(7, .int p3), (6, .int 13), (0, .ref a0), (1, .int p0), (2, .int p1), (3, .int p2), (4, .int p3), (5, .int p4)]) hx hb dX10_feed_71 hl (by decide) rfl (fun ls hl => ?_)
  refine lv_aload_n hx hb dX10_feed_73 rfl (lv_at hl 2 rfl) ?_
  refine va_get (D := (dC, dI)) (ci := 10) (v := .ref a1) (C := RX10) (T := TX10) (N := 67) hx hb hts iwX10 hown hK hP 1 rfl rfl 0 (by decide) (hts _ mw_1176) (fun _ h9 => h9) rfl dX10_feed_74 ?_
  refine lv_aload_n hx hb dX10_feed_77 rfl (lv_at hl 2 rfl) ?_
  refine va_get (D := (dC, dI)) (ci := 10) (v := .int 0) (C := RX10) (T := TX10) (N := 67) hx hb hts iwX10 hown hK hP 1 rfl rfl 2 (by decide) (hts _ mw_1178) (fun _ h9 => h9) rfl dX10_feed_78 ?_
  refine lv_iload hx hb dX10_feed_81 (lv_at hl 1 rfl) ?_
  refine lv_iadd hx hb dX10_feed_83 ?_
  refine x_lit 13 (by decide) ?_
  refine lv_iload hx hb dX10_feed_84 (lv_at hl 0 rfl) ?_
  refine lv_bipush (v := 24) hx hb dX10_feed_86 (by decide) ?_
  refine lv_bipush (v := 8) hx hb dX10_feed_88 (by decide) ?_
  refine lv_iload hx hb dX10_feed_90 (lv_at hl 1 rfl) ?_
  refine lv_iconst (v := 3) hx hb dX10_feed_92 (by decide) ?_
  refine lv_iand hx hb dX10_feed_93 ?_
  refine x_lit 1 (by decide) ?_
  refine lv_imul hx hb dX10_feed_94 ?_
  refine x_lit 8 (by decide) ?_
  refine lv_isub hx hb dX10_feed_95 ?_
  refine x_lit 16 (by decide) ?_
  refine lv_ishr hx hb dX10_feed_96 ?_
  refine lv_topi (fun v_40 ev_40 => ?_)
  refine lv_i2b hx hb dX10_feed_97 rfl ?_
  refine lv_topi (fun v_41 ev_41 => ?_)
  refine xh_bast hx hb hK hP hD hS 0 0 rfl rfl (x_vp (k := 13) (by decide) (by decide) (by decide)) dX10_feed_98 (fun f_42 H locs hP hD hS => ?_)
  have hP : va_P (dC, dI) CL [(a1, .inl (k0, 1720, .inl f_42)), (a0, .inr (10, [.ref a1, .ref a2, .int 0, .int 0, .int 0, .int (-1), .int 0, .int 0, .int 0, .int 0, .long 0, .ref a3, .ref a4, .ref a5, .ref a6, .ref a7, .ref a8, .ref a9, .ref a10, .ref a11, .ref a12, .ref a13, .ref a14, .ref a15, .ref a16, .ref a17, .ref a18, .ref a19, .ref a20, .ref a21, .ref a22, .ref a23, .ref a24, .ref a25, .ref a26, .ref a27, .ref a28, .ref a29, .ref a30, .ref a31, .ref a32, .ref a33, .int 0, .int 0, .int 0, .int 0, .int 0, .ref a34, .ref a35, .ref a36, .ref a37, .ref a38, .ref a39, .ref a40, .ref a41, .ref a42, .ref a43, .ref a44, .int 0, .int 0, .ref a45, .ref a46, .ref a47, .ref a48, .ref a49, .ref a50, .ref a51]))] H := hP
  have hD : va_D A [(a1, .inl (k0, 1720, .inl f_42)), (a0, .inr (10, [.ref a1, .ref a2, .int 0, .int 0, .int 0, .int (-1), .int 0, .int 0, .int 0, .int 0, .long 0, .ref a3, .ref a4, .ref a5, .ref a6, .ref a7, .ref a8, .ref a9, .ref a10, .ref a11, .ref a12, .ref a13, .ref a14, .ref a15, .ref a16, .ref a17, .ref a18, .ref a19, .ref a20, .ref a21, .ref a22, .ref a23, .ref a24, .ref a25, .ref a26, .ref a27, .ref a28, .ref a29, .ref a30, .ref a31, .ref a32, .ref a33, .int 0, .int 0, .int 0, .int 0, .int 0, .ref a34, .ref a35, .ref a36, .ref a37, .ref a38, .ref a39, .ref a40, .ref a41, .ref a42, .ref a43, .ref a44, .int 0, .int 0, .ref a45, .ref a46, .ref a47, .ref a48, .ref a49, .ref a50, .ref a51]))] := hD
  refine lv_iinc (v := 14) (lv' := [(6, .int 14), (7, .int p3), (0, .ref a0), (1, .int p0), (2, .int p1), (3, .int p2), (4, .int p3), (5, .int p4)]) hx hb dX10_feed_99 hl (k := 1) rfl (by decide) (by decide) rfl (fun ls hl => ?_)
  refine lv_goto (tgt := 18) hx hb dX10_feed_102 (by decide) ?_
  refine lv_iload hx hb dX10_feed_18 (lv_at hl 0 rfl) ?_
  refine lv_bipush (v := 20) hx hb dX10_feed_20 (by decide) ?_
  refine lv_icmp_ge (tgt := 105) hx hb dX10_feed_22 (by decide) (fun h => absurd h (by decide)) (fun _ => ?_)
  refine lv_iload hx hb dX10_feed_25 (lv_at hl 0 rfl) ?_
  refine lv_iconst (v := 4) hx hb dX10_feed_27 (by decide) ?_
  refine lv_icmp_ge (tgt := 35) hx hb dX10_feed_28 (by decide) (fun _ => ?_) (fun h => (h (by decide)).elim)
  refine lv_iload hx hb dX10_feed_35 (lv_at hl 0 rfl) ?_
  refine lv_bipush (v := 8) hx hb dX10_feed_37 (by decide) ?_
  refine lv_icmp_ge (tgt := 46) hx hb dX10_feed_39 (by decide) (fun _ => ?_) (fun h => (h (by decide)).elim)
  refine lv_iload hx hb dX10_feed_46 (lv_at hl 0 rfl) ?_
  refine lv_bipush (v := 12) hx hb dX10_feed_48 (by decide) ?_
  refine lv_icmp_ge (tgt := 57) hx hb dX10_feed_50 (by decide) (fun _ => ?_) (fun h => (h (by decide)).elim)
  refine lv_iload hx hb dX10_feed_57 (lv_at hl 0 rfl) ?_
  refine lv_bipush (v := 16) hx hb dX10_feed_59 (by decide) ?_
  refine lv_icmp_ge (tgt := 69) hx hb dX10_feed_61 (by decide) (fun h => absurd h (by decide)) (fun _ => ?_)
  refine lv_iload hx hb dX10_feed_64 (lv_at hl 6 rfl) ?_
  refine lv_goto (tgt := 71) hx hb dX10_feed_66 (by decide) ?_
  refine lv_istore (lv' := [(7, .int p3), (6, .int 14), (0, .ref a0), (1, .int p0), (2, .int p1), (3, .int p2), (4, .int p3), (5, .int p4)]) hx hb dX10_feed_71 hl (by decide) rfl (fun ls hl => ?_)
  refine lv_aload_n hx hb dX10_feed_73 rfl (lv_at hl 2 rfl) ?_
  refine va_get (D := (dC, dI)) (ci := 10) (v := .ref a1) (C := RX10) (T := TX10) (N := 67) hx hb hts iwX10 hown hK hP 1 rfl rfl 0 (by decide) (hts _ mw_1176) (fun _ h9 => h9) rfl dX10_feed_74 ?_
  refine lv_aload_n hx hb dX10_feed_77 rfl (lv_at hl 2 rfl) ?_
  refine va_get (D := (dC, dI)) (ci := 10) (v := .int 0) (C := RX10) (T := TX10) (N := 67) hx hb hts iwX10 hown hK hP 1 rfl rfl 2 (by decide) (hts _ mw_1178) (fun _ h9 => h9) rfl dX10_feed_78 ?_
  refine lv_iload hx hb dX10_feed_81 (lv_at hl 1 rfl) ?_
  refine lv_iadd hx hb dX10_feed_83 ?_
  refine x_lit 14 (by decide) ?_
  refine lv_iload hx hb dX10_feed_84 (lv_at hl 0 rfl) ?_
  refine lv_bipush (v := 24) hx hb dX10_feed_86 (by decide) ?_
  refine lv_bipush (v := 8) hx hb dX10_feed_88 (by decide) ?_
  refine lv_iload hx hb dX10_feed_90 (lv_at hl 1 rfl) ?_
  refine lv_iconst (v := 3) hx hb dX10_feed_92 (by decide) ?_
  refine lv_iand hx hb dX10_feed_93 ?_
  refine x_lit 2 (by decide) ?_
  refine lv_imul hx hb dX10_feed_94 ?_
  refine x_lit 16 (by decide) ?_
  refine lv_isub hx hb dX10_feed_95 ?_
  refine x_lit 8 (by decide) ?_
  refine lv_ishr hx hb dX10_feed_96 ?_
  refine lv_topi (fun v_43 ev_43 => ?_)
  refine lv_i2b hx hb dX10_feed_97 rfl ?_
  refine lv_topi (fun v_44 ev_44 => ?_)
  refine xh_bast hx hb hK hP hD hS 0 0 rfl rfl (x_vp (k := 14) (by decide) (by decide) (by decide)) dX10_feed_98 (fun f_45 H locs hP hD hS => ?_)
  have hP : va_P (dC, dI) CL [(a1, .inl (k0, 1720, .inl f_45)), (a0, .inr (10, [.ref a1, .ref a2, .int 0, .int 0, .int 0, .int (-1), .int 0, .int 0, .int 0, .int 0, .long 0, .ref a3, .ref a4, .ref a5, .ref a6, .ref a7, .ref a8, .ref a9, .ref a10, .ref a11, .ref a12, .ref a13, .ref a14, .ref a15, .ref a16, .ref a17, .ref a18, .ref a19, .ref a20, .ref a21, .ref a22, .ref a23, .ref a24, .ref a25, .ref a26, .ref a27, .ref a28, .ref a29, .ref a30, .ref a31, .ref a32, .ref a33, .int 0, .int 0, .int 0, .int 0, .int 0, .ref a34, .ref a35, .ref a36, .ref a37, .ref a38, .ref a39, .ref a40, .ref a41, .ref a42, .ref a43, .ref a44, .int 0, .int 0, .ref a45, .ref a46, .ref a47, .ref a48, .ref a49, .ref a50, .ref a51]))] H := hP
  have hD : va_D A [(a1, .inl (k0, 1720, .inl f_45)), (a0, .inr (10, [.ref a1, .ref a2, .int 0, .int 0, .int 0, .int (-1), .int 0, .int 0, .int 0, .int 0, .long 0, .ref a3, .ref a4, .ref a5, .ref a6, .ref a7, .ref a8, .ref a9, .ref a10, .ref a11, .ref a12, .ref a13, .ref a14, .ref a15, .ref a16, .ref a17, .ref a18, .ref a19, .ref a20, .ref a21, .ref a22, .ref a23, .ref a24, .ref a25, .ref a26, .ref a27, .ref a28, .ref a29, .ref a30, .ref a31, .ref a32, .ref a33, .int 0, .int 0, .int 0, .int 0, .int 0, .ref a34, .ref a35, .ref a36, .ref a37, .ref a38, .ref a39, .ref a40, .ref a41, .ref a42, .ref a43, .ref a44, .int 0, .int 0, .ref a45, .ref a46, .ref a47, .ref a48, .ref a49, .ref a50, .ref a51]))] := hD
  refine lv_iinc (v := 15) (lv' := [(6, .int 15), (7, .int p3), (0, .ref a0), (1, .int p0), (2, .int p1), (3, .int p2), (4, .int p3), (5, .int p4)]) hx hb dX10_feed_99 hl (k := 1) rfl (by decide) (by decide) rfl (fun ls hl => ?_)
  refine lv_goto (tgt := 18) hx hb dX10_feed_102 (by decide) ?_
  refine lv_iload hx hb dX10_feed_18 (lv_at hl 0 rfl) ?_
  refine lv_bipush (v := 20) hx hb dX10_feed_20 (by decide) ?_
  refine lv_icmp_ge (tgt := 105) hx hb dX10_feed_22 (by decide) (fun h => absurd h (by decide)) (fun _ => ?_)
  refine lv_iload hx hb dX10_feed_25 (lv_at hl 0 rfl) ?_
  refine lv_iconst (v := 4) hx hb dX10_feed_27 (by decide) ?_
  refine lv_icmp_ge (tgt := 35) hx hb dX10_feed_28 (by decide) (fun _ => ?_) (fun h => (h (by decide)).elim)
  refine lv_iload hx hb dX10_feed_35 (lv_at hl 0 rfl) ?_
  refine lv_bipush (v := 8) hx hb dX10_feed_37 (by decide) ?_
  refine lv_icmp_ge (tgt := 46) hx hb dX10_feed_39 (by decide) (fun _ => ?_) (fun h => (h (by decide)).elim)
  refine lv_iload hx hb dX10_feed_46 (lv_at hl 0 rfl) ?_
  refine lv_bipush (v := 12) hx hb dX10_feed_48 (by decide) ?_
  refine lv_icmp_ge (tgt := 57) hx hb dX10_feed_50 (by decide) (fun _ => ?_) (fun h => (h (by decide)).elim)
  refine lv_iload hx hb dX10_feed_57 (lv_at hl 0 rfl) ?_
  refine lv_bipush (v := 16) hx hb dX10_feed_59 (by decide) ?_
  refine lv_icmp_ge (tgt := 69) hx hb dX10_feed_61 (by decide) (fun h => absurd h (by decide)) (fun _ => ?_)
  refine lv_iload hx hb dX10_feed_64 (lv_at hl 6 rfl) ?_
  refine lv_goto (tgt := 71) hx hb dX10_feed_66 (by decide) ?_
  refine lv_istore (lv' := [(7, .int p3), (6, .int 15), (0, .ref a0), (1, .int p0), (2, .int p1), (3, .int p2), (4, .int p3), (5, .int p4)]) hx hb dX10_feed_71 hl (by decide) rfl (fun ls hl => ?_)
  refine lv_aload_n hx hb dX10_feed_73 rfl (lv_at hl 2 rfl) ?_
  refine va_get (D := (dC, dI)) (ci := 10) (v := .ref a1) (C := RX10) (T := TX10) (N := 67) hx hb hts iwX10 hown hK hP 1 rfl rfl 0 (by decide) (hts _ mw_1176) (fun _ h9 => h9) rfl dX10_feed_74 ?_
  refine lv_aload_n hx hb dX10_feed_77 rfl (lv_at hl 2 rfl) ?_
  refine va_get (D := (dC, dI)) (ci := 10) (v := .int 0) (C := RX10) (T := TX10) (N := 67) hx hb hts iwX10 hown hK hP 1 rfl rfl 2 (by decide) (hts _ mw_1178) (fun _ h9 => h9) rfl dX10_feed_78 ?_
  refine lv_iload hx hb dX10_feed_81 (lv_at hl 1 rfl) ?_
  refine lv_iadd hx hb dX10_feed_83 ?_
  refine x_lit 15 (by decide) ?_
  refine lv_iload hx hb dX10_feed_84 (lv_at hl 0 rfl) ?_
  refine lv_bipush (v := 24) hx hb dX10_feed_86 (by decide) ?_
  refine lv_bipush (v := 8) hx hb dX10_feed_88 (by decide) ?_
  refine lv_iload hx hb dX10_feed_90 (lv_at hl 1 rfl) ?_
  refine lv_iconst (v := 3) hx hb dX10_feed_92 (by decide) ?_
  refine lv_iand hx hb dX10_feed_93 ?_
  refine x_lit 3 (by decide) ?_
  refine lv_imul hx hb dX10_feed_94 ?_
  refine x_lit 24 (by decide) ?_
  refine lv_isub hx hb dX10_feed_95 ?_
  refine x_lit 0 (by decide) ?_
  refine lv_ishr hx hb dX10_feed_96 ?_
  refine lv_topi (fun v_46 ev_46 => ?_)
  refine lv_i2b hx hb dX10_feed_97 rfl ?_
  refine lv_topi (fun v_47 ev_47 => ?_)
  refine xh_bast hx hb hK hP hD hS 0 0 rfl rfl (x_vp (k := 15) (by decide) (by decide) (by decide)) dX10_feed_98 (fun f_48 H locs hP hD hS => ?_)
  have hP : va_P (dC, dI) CL [(a1, .inl (k0, 1720, .inl f_48)), (a0, .inr (10, [.ref a1, .ref a2, .int 0, .int 0, .int 0, .int (-1), .int 0, .int 0, .int 0, .int 0, .long 0, .ref a3, .ref a4, .ref a5, .ref a6, .ref a7, .ref a8, .ref a9, .ref a10, .ref a11, .ref a12, .ref a13, .ref a14, .ref a15, .ref a16, .ref a17, .ref a18, .ref a19, .ref a20, .ref a21, .ref a22, .ref a23, .ref a24, .ref a25, .ref a26, .ref a27, .ref a28, .ref a29, .ref a30, .ref a31, .ref a32, .ref a33, .int 0, .int 0, .int 0, .int 0, .int 0, .ref a34, .ref a35, .ref a36, .ref a37, .ref a38, .ref a39, .ref a40, .ref a41, .ref a42, .ref a43, .ref a44, .int 0, .int 0, .ref a45, .ref a46, .ref a47, .ref a48, .ref a49, .ref a50, .ref a51]))] H := hP
  have hD : va_D A [(a1, .inl (k0, 1720, .inl f_48)), (a0, .inr (10, [.ref a1, .ref a2, .int 0, .int 0, .int 0, .int (-1), .int 0, .int 0, .int 0, .int 0, .long 0, .ref a3, .ref a4, .ref a5, .ref a6, .ref a7, .ref a8, .ref a9, .ref a10, .ref a11, .ref a12, .ref a13, .ref a14, .ref a15, .ref a16, .ref a17, .ref a18, .ref a19, .ref a20, .ref a21, .ref a22, .ref a23, .ref a24, .ref a25, .ref a26, .ref a27, .ref a28, .ref a29, .ref a30, .ref a31, .ref a32, .ref a33, .int 0, .int 0, .int 0, .int 0, .int 0, .ref a34, .ref a35, .ref a36, .ref a37, .ref a38, .ref a39, .ref a40, .ref a41, .ref a42, .ref a43, .ref a44, .int 0, .int 0, .ref a45, .ref a46, .ref a47, .ref a48, .ref a49, .ref a50, .ref a51]))] := hD
  refine lv_iinc (v := 16) (lv' := [(6, .int 16), (7, .int p3), (0, .ref a0), (1, .int p0), (2, .int p1), (3, .int p2), (4, .int p3), (5, .int p4)]) hx hb dX10_feed_99 hl (k := 1) rfl (by decide) (by decide) rfl (fun ls hl => ?_)
  refine lv_goto (tgt := 18) hx hb dX10_feed_102 (by decide) ?_
  refine lv_iload hx hb dX10_feed_18 (lv_at hl 0 rfl) ?_
  refine lv_bipush (v := 20) hx hb dX10_feed_20 (by decide) ?_
  refine lv_icmp_ge (tgt := 105) hx hb dX10_feed_22 (by decide) (fun h => absurd h (by decide)) (fun _ => ?_)
  refine lv_iload hx hb dX10_feed_25 (lv_at hl 0 rfl) ?_
  refine lv_iconst (v := 4) hx hb dX10_feed_27 (by decide) ?_
  refine lv_icmp_ge (tgt := 35) hx hb dX10_feed_28 (by decide) (fun _ => ?_) (fun h => (h (by decide)).elim)
  refine lv_iload hx hb dX10_feed_35 (lv_at hl 0 rfl) ?_
  refine lv_bipush (v := 8) hx hb dX10_feed_37 (by decide) ?_
  refine lv_icmp_ge (tgt := 46) hx hb dX10_feed_39 (by decide) (fun _ => ?_) (fun h => (h (by decide)).elim)
  refine lv_iload hx hb dX10_feed_46 (lv_at hl 0 rfl) ?_
  refine lv_bipush (v := 12) hx hb dX10_feed_48 (by decide) ?_
  refine lv_icmp_ge (tgt := 57) hx hb dX10_feed_50 (by decide) (fun _ => ?_) (fun h => (h (by decide)).elim)
  refine lv_iload hx hb dX10_feed_57 (lv_at hl 0 rfl) ?_
  refine lv_bipush (v := 16) hx hb dX10_feed_59 (by decide) ?_
  refine lv_icmp_ge (tgt := 69) hx hb dX10_feed_61 (by decide) (fun _ => ?_) (fun h => (h (by decide)).elim)
  refine lv_iload hx hb dX10_feed_69 (lv_at hl 7 rfl) ?_
  refine lv_istore (lv' := [(7, .int p4), (6, .int 16), (0, .ref a0), (1, .int p0), (2, .int p1), (3, .int p2), (4, .int p3), (5, .int p4)]) hx hb dX10_feed_71 hl (by decide) rfl (fun ls hl => ?_)
  refine lv_aload_n hx hb dX10_feed_73 rfl (lv_at hl 2 rfl) ?_
  refine va_get (D := (dC, dI)) (ci := 10) (v := .ref a1) (C := RX10) (T := TX10) (N := 67) hx hb hts iwX10 hown hK hP 1 rfl rfl 0 (by decide) (hts _ mw_1176) (fun _ h9 => h9) rfl dX10_feed_74 ?_
  refine lv_aload_n hx hb dX10_feed_77 rfl (lv_at hl 2 rfl) ?_
  refine va_get (D := (dC, dI)) (ci := 10) (v := .int 0) (C := RX10) (T := TX10) (N := 67) hx hb hts iwX10 hown hK hP 1 rfl rfl 2 (by decide) (hts _ mw_1178) (fun _ h9 => h9) rfl dX10_feed_78 ?_
  refine lv_iload hx hb dX10_feed_81 (lv_at hl 1 rfl) ?_
  refine lv_iadd hx hb dX10_feed_83 ?_
  refine x_lit 16 (by decide) ?_
  refine lv_iload hx hb dX10_feed_84 (lv_at hl 0 rfl) ?_
  refine lv_bipush (v := 24) hx hb dX10_feed_86 (by decide) ?_
  refine lv_bipush (v := 8) hx hb dX10_feed_88 (by decide) ?_
  refine lv_iload hx hb dX10_feed_90 (lv_at hl 1 rfl) ?_
  refine lv_iconst (v := 3) hx hb dX10_feed_92 (by decide) ?_
  refine lv_iand hx hb dX10_feed_93 ?_
  refine x_lit 0 (by decide) ?_
  refine lv_imul hx hb dX10_feed_94 ?_
  refine x_lit 0 (by decide) ?_
  refine lv_isub hx hb dX10_feed_95 ?_
  refine x_lit 24 (by decide) ?_
  refine lv_ishr hx hb dX10_feed_96 ?_
  refine lv_topi (fun v_49 ev_49 => ?_)
  refine lv_i2b hx hb dX10_feed_97 rfl ?_
  refine lv_topi (fun v_50 ev_50 => ?_)
  refine xh_bast hx hb hK hP hD hS 0 0 rfl rfl (x_vp (k := 16) (by decide) (by decide) (by decide)) dX10_feed_98 (fun f_51 H locs hP hD hS => ?_)
  have hP : va_P (dC, dI) CL [(a1, .inl (k0, 1720, .inl f_51)), (a0, .inr (10, [.ref a1, .ref a2, .int 0, .int 0, .int 0, .int (-1), .int 0, .int 0, .int 0, .int 0, .long 0, .ref a3, .ref a4, .ref a5, .ref a6, .ref a7, .ref a8, .ref a9, .ref a10, .ref a11, .ref a12, .ref a13, .ref a14, .ref a15, .ref a16, .ref a17, .ref a18, .ref a19, .ref a20, .ref a21, .ref a22, .ref a23, .ref a24, .ref a25, .ref a26, .ref a27, .ref a28, .ref a29, .ref a30, .ref a31, .ref a32, .ref a33, .int 0, .int 0, .int 0, .int 0, .int 0, .ref a34, .ref a35, .ref a36, .ref a37, .ref a38, .ref a39, .ref a40, .ref a41, .ref a42, .ref a43, .ref a44, .int 0, .int 0, .ref a45, .ref a46, .ref a47, .ref a48, .ref a49, .ref a50, .ref a51]))] H := hP
  have hD : va_D A [(a1, .inl (k0, 1720, .inl f_51)), (a0, .inr (10, [.ref a1, .ref a2, .int 0, .int 0, .int 0, .int (-1), .int 0, .int 0, .int 0, .int 0, .long 0, .ref a3, .ref a4, .ref a5, .ref a6, .ref a7, .ref a8, .ref a9, .ref a10, .ref a11, .ref a12, .ref a13, .ref a14, .ref a15, .ref a16, .ref a17, .ref a18, .ref a19, .ref a20, .ref a21, .ref a22, .ref a23, .ref a24, .ref a25, .ref a26, .ref a27, .ref a28, .ref a29, .ref a30, .ref a31, .ref a32, .ref a33, .int 0, .int 0, .int 0, .int 0, .int 0, .ref a34, .ref a35, .ref a36, .ref a37, .ref a38, .ref a39, .ref a40, .ref a41, .ref a42, .ref a43, .ref a44, .int 0, .int 0, .ref a45, .ref a46, .ref a47, .ref a48, .ref a49, .ref a50, .ref a51]))] := hD
  refine lv_iinc (v := 17) (lv' := [(6, .int 17), (7, .int p4), (0, .ref a0), (1, .int p0), (2, .int p1), (3, .int p2), (4, .int p3), (5, .int p4)]) hx hb dX10_feed_99 hl (k := 1) rfl (by decide) (by decide) rfl (fun ls hl => ?_)
  refine lv_goto (tgt := 18) hx hb dX10_feed_102 (by decide) ?_
  refine lv_iload hx hb dX10_feed_18 (lv_at hl 0 rfl) ?_
  refine lv_bipush (v := 20) hx hb dX10_feed_20 (by decide) ?_
  refine lv_icmp_ge (tgt := 105) hx hb dX10_feed_22 (by decide) (fun h => absurd h (by decide)) (fun _ => ?_)
  refine lv_iload hx hb dX10_feed_25 (lv_at hl 0 rfl) ?_
  refine lv_iconst (v := 4) hx hb dX10_feed_27 (by decide) ?_
  refine lv_icmp_ge (tgt := 35) hx hb dX10_feed_28 (by decide) (fun _ => ?_) (fun h => (h (by decide)).elim)
  refine lv_iload hx hb dX10_feed_35 (lv_at hl 0 rfl) ?_
  refine lv_bipush (v := 8) hx hb dX10_feed_37 (by decide) ?_
  refine lv_icmp_ge (tgt := 46) hx hb dX10_feed_39 (by decide) (fun _ => ?_) (fun h => (h (by decide)).elim)
  refine lv_iload hx hb dX10_feed_46 (lv_at hl 0 rfl) ?_
  refine lv_bipush (v := 12) hx hb dX10_feed_48 (by decide) ?_
  refine lv_icmp_ge (tgt := 57) hx hb dX10_feed_50 (by decide) (fun _ => ?_) (fun h => (h (by decide)).elim)
  refine lv_iload hx hb dX10_feed_57 (lv_at hl 0 rfl) ?_
  refine lv_bipush (v := 16) hx hb dX10_feed_59 (by decide) ?_
  refine lv_icmp_ge (tgt := 69) hx hb dX10_feed_61 (by decide) (fun _ => ?_) (fun h => (h (by decide)).elim)
  refine lv_iload hx hb dX10_feed_69 (lv_at hl 7 rfl) ?_
  refine lv_istore (lv' := [(7, .int p4), (6, .int 17), (0, .ref a0), (1, .int p0), (2, .int p1), (3, .int p2), (4, .int p3), (5, .int p4)]) hx hb dX10_feed_71 hl (by decide) rfl (fun ls hl => ?_)
  refine lv_aload_n hx hb dX10_feed_73 rfl (lv_at hl 2 rfl) ?_
  refine va_get (D := (dC, dI)) (ci := 10) (v := .ref a1) (C := RX10) (T := TX10) (N := 67) hx hb hts iwX10 hown hK hP 1 rfl rfl 0 (by decide) (hts _ mw_1176) (fun _ h9 => h9) rfl dX10_feed_74 ?_
  refine lv_aload_n hx hb dX10_feed_77 rfl (lv_at hl 2 rfl) ?_
  refine va_get (D := (dC, dI)) (ci := 10) (v := .int 0) (C := RX10) (T := TX10) (N := 67) hx hb hts iwX10 hown hK hP 1 rfl rfl 2 (by decide) (hts _ mw_1178) (fun _ h9 => h9) rfl dX10_feed_78 ?_
  refine lv_iload hx hb dX10_feed_81 (lv_at hl 1 rfl) ?_
  refine lv_iadd hx hb dX10_feed_83 ?_
  refine x_lit 17 (by decide) ?_
  refine lv_iload hx hb dX10_feed_84 (lv_at hl 0 rfl) ?_
  refine lv_bipush (v := 24) hx hb dX10_feed_86 (by decide) ?_
  refine lv_bipush (v := 8) hx hb dX10_feed_88 (by decide) ?_
  refine lv_iload hx hb dX10_feed_90 (lv_at hl 1 rfl) ?_
  refine lv_iconst (v := 3) hx hb dX10_feed_92 (by decide) ?_
  refine lv_iand hx hb dX10_feed_93 ?_
  refine x_lit 1 (by decide) ?_
  refine lv_imul hx hb dX10_feed_94 ?_
  refine x_lit 8 (by decide) ?_
  refine lv_isub hx hb dX10_feed_95 ?_
  refine x_lit 16 (by decide) ?_
  refine lv_ishr hx hb dX10_feed_96 ?_
  refine lv_topi (fun v_52 ev_52 => ?_)
  refine lv_i2b hx hb dX10_feed_97 rfl ?_
  refine lv_topi (fun v_53 ev_53 => ?_)
  refine xh_bast hx hb hK hP hD hS 0 0 rfl rfl (x_vp (k := 17) (by decide) (by decide) (by decide)) dX10_feed_98 (fun f_54 H locs hP hD hS => ?_)
  have hP : va_P (dC, dI) CL [(a1, .inl (k0, 1720, .inl f_54)), (a0, .inr (10, [.ref a1, .ref a2, .int 0, .int 0, .int 0, .int (-1), .int 0, .int 0, .int 0, .int 0, .long 0, .ref a3, .ref a4, .ref a5, .ref a6, .ref a7, .ref a8, .ref a9, .ref a10, .ref a11, .ref a12, .ref a13, .ref a14, .ref a15, .ref a16, .ref a17, .ref a18, .ref a19, .ref a20, .ref a21, .ref a22, .ref a23, .ref a24, .ref a25, .ref a26, .ref a27, .ref a28, .ref a29, .ref a30, .ref a31, .ref a32, .ref a33, .int 0, .int 0, .int 0, .int 0, .int 0, .ref a34, .ref a35, .ref a36, .ref a37, .ref a38, .ref a39, .ref a40, .ref a41, .ref a42, .ref a43, .ref a44, .int 0, .int 0, .ref a45, .ref a46, .ref a47, .ref a48, .ref a49, .ref a50, .ref a51]))] H := hP
  have hD : va_D A [(a1, .inl (k0, 1720, .inl f_54)), (a0, .inr (10, [.ref a1, .ref a2, .int 0, .int 0, .int 0, .int (-1), .int 0, .int 0, .int 0, .int 0, .long 0, .ref a3, .ref a4, .ref a5, .ref a6, .ref a7, .ref a8, .ref a9, .ref a10, .ref a11, .ref a12, .ref a13, .ref a14, .ref a15, .ref a16, .ref a17, .ref a18, .ref a19, .ref a20, .ref a21, .ref a22, .ref a23, .ref a24, .ref a25, .ref a26, .ref a27, .ref a28, .ref a29, .ref a30, .ref a31, .ref a32, .ref a33, .int 0, .int 0, .int 0, .int 0, .int 0, .ref a34, .ref a35, .ref a36, .ref a37, .ref a38, .ref a39, .ref a40, .ref a41, .ref a42, .ref a43, .ref a44, .int 0, .int 0, .ref a45, .ref a46, .ref a47, .ref a48, .ref a49, .ref a50, .ref a51]))] := hD
  refine lv_iinc (v := 18) (lv' := [(6, .int 18), (7, .int p4), (0, .ref a0), (1, .int p0), (2, .int p1), (3, .int p2), (4, .int p3), (5, .int p4)]) hx hb dX10_feed_99 hl (k := 1) rfl (by decide) (by decide) rfl (fun ls hl => ?_)
  refine lv_goto (tgt := 18) hx hb dX10_feed_102 (by decide) ?_
  refine lv_iload hx hb dX10_feed_18 (lv_at hl 0 rfl) ?_
  refine lv_bipush (v := 20) hx hb dX10_feed_20 (by decide) ?_
  refine lv_icmp_ge (tgt := 105) hx hb dX10_feed_22 (by decide) (fun h => absurd h (by decide)) (fun _ => ?_)
  refine lv_iload hx hb dX10_feed_25 (lv_at hl 0 rfl) ?_
  refine lv_iconst (v := 4) hx hb dX10_feed_27 (by decide) ?_
  refine lv_icmp_ge (tgt := 35) hx hb dX10_feed_28 (by decide) (fun _ => ?_) (fun h => (h (by decide)).elim)
  refine lv_iload hx hb dX10_feed_35 (lv_at hl 0 rfl) ?_
  refine lv_bipush (v := 8) hx hb dX10_feed_37 (by decide) ?_
  refine lv_icmp_ge (tgt := 46) hx hb dX10_feed_39 (by decide) (fun _ => ?_) (fun h => (h (by decide)).elim)
  refine lv_iload hx hb dX10_feed_46 (lv_at hl 0 rfl) ?_
  refine lv_bipush (v := 12) hx hb dX10_feed_48 (by decide) ?_
  refine lv_icmp_ge (tgt := 57) hx hb dX10_feed_50 (by decide) (fun _ => ?_) (fun h => (h (by decide)).elim)
  refine lv_iload hx hb dX10_feed_57 (lv_at hl 0 rfl) ?_
  refine lv_bipush (v := 16) hx hb dX10_feed_59 (by decide) ?_
  refine lv_icmp_ge (tgt := 69) hx hb dX10_feed_61 (by decide) (fun _ => ?_) (fun h => (h (by decide)).elim)
  refine lv_iload hx hb dX10_feed_69 (lv_at hl 7 rfl) ?_
  refine lv_istore (lv' := [(7, .int p4), (6, .int 18), (0, .ref a0), (1, .int p0), (2, .int p1), (3, .int p2), (4, .int p3), (5, .int p4)]) hx hb dX10_feed_71 hl (by decide) rfl (fun ls hl => ?_)
  refine lv_aload_n hx hb dX10_feed_73 rfl (lv_at hl 2 rfl) ?_
  refine va_get (D := (dC, dI)) (ci := 10) (v := .ref a1) (C := RX10) (T := TX10) (N := 67) hx hb hts iwX10 hown hK hP 1 rfl rfl 0 (by decide) (hts _ mw_1176) (fun _ h9 => h9) rfl dX10_feed_74 ?_
  refine lv_aload_n hx hb dX10_feed_77 rfl (lv_at hl 2 rfl) ?_
  refine va_get (D := (dC, dI)) (ci := 10) (v := .int 0) (C := RX10) (T := TX10) (N := 67) hx hb hts iwX10 hown hK hP 1 rfl rfl 2 (by decide) (hts _ mw_1178) (fun _ h9 => h9) rfl dX10_feed_78 ?_
  refine lv_iload hx hb dX10_feed_81 (lv_at hl 1 rfl) ?_
  refine lv_iadd hx hb dX10_feed_83 ?_
  refine x_lit 18 (by decide) ?_
  refine lv_iload hx hb dX10_feed_84 (lv_at hl 0 rfl) ?_
  refine lv_bipush (v := 24) hx hb dX10_feed_86 (by decide) ?_
  refine lv_bipush (v := 8) hx hb dX10_feed_88 (by decide) ?_
  refine lv_iload hx hb dX10_feed_90 (lv_at hl 1 rfl) ?_
  refine lv_iconst (v := 3) hx hb dX10_feed_92 (by decide) ?_
  refine lv_iand hx hb dX10_feed_93 ?_
  refine x_lit 2 (by decide) ?_
  refine lv_imul hx hb dX10_feed_94 ?_
  refine x_lit 16 (by decide) ?_
  refine lv_isub hx hb dX10_feed_95 ?_
  refine x_lit 8 (by decide) ?_
  refine lv_ishr hx hb dX10_feed_96 ?_
  refine lv_topi (fun v_55 ev_55 => ?_)
  refine lv_i2b hx hb dX10_feed_97 rfl ?_
  refine lv_topi (fun v_56 ev_56 => ?_)
  refine xh_bast hx hb hK hP hD hS 0 0 rfl rfl (x_vp (k := 18) (by decide) (by decide) (by decide)) dX10_feed_98 (fun f_57 H locs hP hD hS => ?_)
  have hP : va_P (dC, dI) CL [(a1, .inl (k0, 1720, .inl f_57)), (a0, .inr (10, [.ref a1, .ref a2, .int 0, .int 0, .int 0, .int (-1), .int 0, .int 0, .int 0, .int 0, .long 0, .ref a3, .ref a4, .ref a5, .ref a6, .ref a7, .ref a8, .ref a9, .ref a10, .ref a11, .ref a12, .ref a13, .ref a14, .ref a15, .ref a16, .ref a17, .ref a18, .ref a19, .ref a20, .ref a21, .ref a22, .ref a23, .ref a24, .ref a25, .ref a26, .ref a27, .ref a28, .ref a29, .ref a30, .ref a31, .ref a32, .ref a33, .int 0, .int 0, .int 0, .int 0, .int 0, .ref a34, .ref a35, .ref a36, .ref a37, .ref a38, .ref a39, .ref a40, .ref a41, .ref a42, .ref a43, .ref a44, .int 0, .int 0, .ref a45, .ref a46, .ref a47, .ref a48, .ref a49, .ref a50, .ref a51]))] H := hP
  have hD : va_D A [(a1, .inl (k0, 1720, .inl f_57)), (a0, .inr (10, [.ref a1, .ref a2, .int 0, .int 0, .int 0, .int (-1), .int 0, .int 0, .int 0, .int 0, .long 0, .ref a3, .ref a4, .ref a5, .ref a6, .ref a7, .ref a8, .ref a9, .ref a10, .ref a11, .ref a12, .ref a13, .ref a14, .ref a15, .ref a16, .ref a17, .ref a18, .ref a19, .ref a20, .ref a21, .ref a22, .ref a23, .ref a24, .ref a25, .ref a26, .ref a27, .ref a28, .ref a29, .ref a30, .ref a31, .ref a32, .ref a33, .int 0, .int 0, .int 0, .int 0, .int 0, .ref a34, .ref a35, .ref a36, .ref a37, .ref a38, .ref a39, .ref a40, .ref a41, .ref a42, .ref a43, .ref a44, .int 0, .int 0, .ref a45, .ref a46, .ref a47, .ref a48, .ref a49, .ref a50, .ref a51]))] := hD
  refine lv_iinc (v := 19) (lv' := [(6, .int 19), (7, .int p4), (0, .ref a0), (1, .int p0), (2, .int p1), (3, .int p2), (4, .int p3), (5, .int p4)]) hx hb dX10_feed_99 hl (k := 1) rfl (by decide) (by decide) rfl (fun ls hl => ?_)
  refine lv_goto (tgt := 18) hx hb dX10_feed_102 (by decide) ?_
  refine lv_iload hx hb dX10_feed_18 (lv_at hl 0 rfl) ?_
  refine lv_bipush (v := 20) hx hb dX10_feed_20 (by decide) ?_
  refine lv_icmp_ge (tgt := 105) hx hb dX10_feed_22 (by decide) (fun h => absurd h (by decide)) (fun _ => ?_)
  refine lv_iload hx hb dX10_feed_25 (lv_at hl 0 rfl) ?_
  refine lv_iconst (v := 4) hx hb dX10_feed_27 (by decide) ?_
  refine lv_icmp_ge (tgt := 35) hx hb dX10_feed_28 (by decide) (fun _ => ?_) (fun h => (h (by decide)).elim)
  refine lv_iload hx hb dX10_feed_35 (lv_at hl 0 rfl) ?_
  refine lv_bipush (v := 8) hx hb dX10_feed_37 (by decide) ?_
  refine lv_icmp_ge (tgt := 46) hx hb dX10_feed_39 (by decide) (fun _ => ?_) (fun h => (h (by decide)).elim)
  refine lv_iload hx hb dX10_feed_46 (lv_at hl 0 rfl) ?_
  refine lv_bipush (v := 12) hx hb dX10_feed_48 (by decide) ?_
  refine lv_icmp_ge (tgt := 57) hx hb dX10_feed_50 (by decide) (fun _ => ?_) (fun h => (h (by decide)).elim)
  refine lv_iload hx hb dX10_feed_57 (lv_at hl 0 rfl) ?_
  refine lv_bipush (v := 16) hx hb dX10_feed_59 (by decide) ?_
  refine lv_icmp_ge (tgt := 69) hx hb dX10_feed_61 (by decide) (fun _ => ?_) (fun h => (h (by decide)).elim)
  refine lv_iload hx hb dX10_feed_69 (lv_at hl 7 rfl) ?_
  refine lv_istore (lv' := [(7, .int p4), (6, .int 19), (0, .ref a0), (1, .int p0), (2, .int p1), (3, .int p2), (4, .int p3), (5, .int p4)]) hx hb dX10_feed_71 hl (by decide) rfl (fun ls hl => ?_)
  refine lv_aload_n hx hb dX10_feed_73 rfl (lv_at hl 2 rfl) ?_
  refine va_get (D := (dC, dI)) (ci := 10) (v := .ref a1) (C := RX10) (T := TX10) (N := 67) hx hb hts iwX10 hown hK hP 1 rfl rfl 0 (by decide) (hts _ mw_1176) (fun _ h9 => h9) rfl dX10_feed_74 ?_
  refine lv_aload_n hx hb dX10_feed_77 rfl (lv_at hl 2 rfl) ?_
  refine va_get (D := (dC, dI)) (ci := 10) (v := .int 0) (C := RX10) (T := TX10) (N := 67) hx hb hts iwX10 hown hK hP 1 rfl rfl 2 (by decide) (hts _ mw_1178) (fun _ h9 => h9) rfl dX10_feed_78 ?_
  refine lv_iload hx hb dX10_feed_81 (lv_at hl 1 rfl) ?_
  refine lv_iadd hx hb dX10_feed_83 ?_
  refine x_lit 19 (by decide) ?_
  refine lv_iload hx hb dX10_feed_84 (lv_at hl 0 rfl) ?_
  refine lv_bipush (v := 24) hx hb dX10_feed_86 (by decide) ?_
  refine lv_bipush (v := 8) hx hb dX10_feed_88 (by decide) ?_
  refine lv_iload hx hb dX10_feed_90 (lv_at hl 1 rfl) ?_
  refine lv_iconst (v := 3) hx hb dX10_feed_92 (by decide) ?_
  refine lv_iand hx hb dX10_feed_93 ?_
  refine x_lit 3 (by decide) ?_
  refine lv_imul hx hb dX10_feed_94 ?_
  refine x_lit 24 (by decide) ?_
  refine lv_isub hx hb dX10_feed_95 ?_
  refine x_lit 0 (by decide) ?_
  refine lv_ishr hx hb dX10_feed_96 ?_
  refine lv_topi (fun v_58 ev_58 => ?_)
  refine lv_i2b hx hb dX10_feed_97 rfl ?_
  refine lv_topi (fun v_59 ev_59 => ?_)
  refine xh_bast hx hb hK hP hD hS 0 0 rfl rfl (x_vp (k := 19) (by decide) (by decide) (by decide)) dX10_feed_98 (fun f_60 H locs hP hD hS => ?_)
  have hP : va_P (dC, dI) CL [(a1, .inl (k0, 1720, .inl f_60)), (a0, .inr (10, [.ref a1, .ref a2, .int 0, .int 0, .int 0, .int (-1), .int 0, .int 0, .int 0, .int 0, .long 0, .ref a3, .ref a4, .ref a5, .ref a6, .ref a7, .ref a8, .ref a9, .ref a10, .ref a11, .ref a12, .ref a13, .ref a14, .ref a15, .ref a16, .ref a17, .ref a18, .ref a19, .ref a20, .ref a21, .ref a22, .ref a23, .ref a24, .ref a25, .ref a26, .ref a27, .ref a28, .ref a29, .ref a30, .ref a31, .ref a32, .ref a33, .int 0, .int 0, .int 0, .int 0, .int 0, .ref a34, .ref a35, .ref a36, .ref a37, .ref a38, .ref a39, .ref a40, .ref a41, .ref a42, .ref a43, .ref a44, .int 0, .int 0, .ref a45, .ref a46, .ref a47, .ref a48, .ref a49, .ref a50, .ref a51]))] H := hP
  have hD : va_D A [(a1, .inl (k0, 1720, .inl f_60)), (a0, .inr (10, [.ref a1, .ref a2, .int 0, .int 0, .int 0, .int (-1), .int 0, .int 0, .int 0, .int 0, .long 0, .ref a3, .ref a4, .ref a5, .ref a6, .ref a7, .ref a8, .ref a9, .ref a10, .ref a11, .ref a12, .ref a13, .ref a14, .ref a15, .ref a16, .ref a17, .ref a18, .ref a19, .ref a20, .ref a21, .ref a22, .ref a23, .ref a24, .ref a25, .ref a26, .ref a27, .ref a28, .ref a29, .ref a30, .ref a31, .ref a32, .ref a33, .int 0, .int 0, .int 0, .int 0, .int 0, .ref a34, .ref a35, .ref a36, .ref a37, .ref a38, .ref a39, .ref a40, .ref a41, .ref a42, .ref a43, .ref a44, .int 0, .int 0, .ref a45, .ref a46, .ref a47, .ref a48, .ref a49, .ref a50, .ref a51]))] := hD
  refine lv_iinc (v := 20) (lv' := [(6, .int 20), (7, .int p4), (0, .ref a0), (1, .int p0), (2, .int p1), (3, .int p2), (4, .int p3), (5, .int p4)]) hx hb dX10_feed_99 hl (k := 1) rfl (by decide) (by decide) rfl (fun ls hl => ?_)
  refine lv_goto (tgt := 18) hx hb dX10_feed_102 (by decide) ?_
  refine lv_iload hx hb dX10_feed_18 (lv_at hl 0 rfl) ?_
  refine lv_bipush (v := 20) hx hb dX10_feed_20 (by decide) ?_
  refine lv_icmp_ge (tgt := 105) hx hb dX10_feed_22 (by decide) (fun _ => ?_) (fun h => (h (by decide)).elim)
  refine lv_aload_n hx hb dX10_feed_105 rfl (lv_at hl 2 rfl) ?_
  refine lv_dup hx hb dX10_feed_106 rfl ?_
  refine va_get (D := (dC, dI)) (ci := 10) (v := .int 0) (C := RX10) (T := TX10) (N := 67) hx hb hts iwX10 hown hK hP 1 rfl rfl 2 (by decide) (hts _ mw_1178) (fun _ h9 => h9) rfl dX10_feed_107 ?_
  refine lv_bipush (v := 20) hx hb dX10_feed_110 (by decide) ?_
  refine lv_iadd hx hb dX10_feed_112 ?_
  refine x_lit 20 (by decide) ?_
  refine va_put (D := (dC, dI)) (ci := 10) (v := .int 20) (ty := .int) (C := RX10) (T := TX10) (N := 67) hx hb hts iwX10 tyX10 tyX10_ok nmX10 hown hK hP hD hS 1 rfl rfl 2 (by decide) (hts _ mw_1178) (fun _ h9 => h9) rfl (by decide +kernel) rfl rfl (Nat.le_of_ble_eq_true rfl) dX10_feed_113 (fun H locs hP hD hS => ?_)
  have hP : va_P (dC, dI) CL [(a1, .inl (k0, 1720, .inl f_60)), (a0, .inr (10, [.ref a1, .ref a2, .int 20, .int 0, .int 0, .int (-1), .int 0, .int 0, .int 0, .int 0, .long 0, .ref a3, .ref a4, .ref a5, .ref a6, .ref a7, .ref a8, .ref a9, .ref a10, .ref a11, .ref a12, .ref a13, .ref a14, .ref a15, .ref a16, .ref a17, .ref a18, .ref a19, .ref a20, .ref a21, .ref a22, .ref a23, .ref a24, .ref a25, .ref a26, .ref a27, .ref a28, .ref a29, .ref a30, .ref a31, .ref a32, .ref a33, .int 0, .int 0, .int 0, .int 0, .int 0, .ref a34, .ref a35, .ref a36, .ref a37, .ref a38, .ref a39, .ref a40, .ref a41, .ref a42, .ref a43, .ref a44, .int 0, .int 0, .ref a45, .ref a46, .ref a47, .ref a48, .ref a49, .ref a50, .ref a51]))] H := hP
  have hD : va_D A [(a1, .inl (k0, 1720, .inl f_60)), (a0, .inr (10, [.ref a1, .ref a2, .int 20, .int 0, .int 0, .int (-1), .int 0, .int 0, .int 0, .int 0, .long 0, .ref a3, .ref a4, .ref a5, .ref a6, .ref a7, .ref a8, .ref a9, .ref a10, .ref a11, .ref a12, .ref a13, .ref a14, .ref a15, .ref a16, .ref a17, .ref a18, .ref a19, .ref a20, .ref a21, .ref a22, .ref a23, .ref a24, .ref a25, .ref a26, .ref a27, .ref a28, .ref a29, .ref a30, .ref a31, .ref a32, .ref a33, .int 0, .int 0, .int 0, .int 0, .int 0, .ref a34, .ref a35, .ref a36, .ref a37, .ref a38, .ref a39, .ref a40, .ref a41, .ref a42, .ref a43, .ref a44, .int 0, .int 0, .ref a45, .ref a46, .ref a47, .ref a48, .ref a49, .ref a50, .ref a51]))] := hD
  refine lv_aload_n hx hb dX10_feed_116 rfl (lv_at hl 2 rfl) ?_
  refine va_get (D := (dC, dI)) (ci := 10) (v := .int 20) (C := RX10) (T := TX10) (N := 67) hx hb hts iwX10 hown hK hP 1 rfl rfl 2 (by decide) (hts _ mw_1178) (fun _ h9 => h9) rfl dX10_feed_117 ?_
  refine W.widen (k := 0) (n := 0) (Nat.le_of_ble_eq_true rfl) (Nat.le_of_ble_eq_true rfl) ?_
  exact W.iret (v := 20) hx hb hr (fun t ht hW => ⟨⟨20, (), rfl, rfl, trivial⟩, hS.F ht⟩) hS.2.2 dX10_feed_120
set_option maxHeartbeats 4000000 in
set_option maxRecDepth 100000 in
theorem zX10_end (l : Launch) (dC : Nat → ClassId) (dI : Nat → Nat → Nat) (adK adV : Nat → Nat) (sz : Nat) (a0 : Nat) (p0 : Int32) (a1 : Nat) (a2 : Nat) (a3 : Nat) (a4 : Nat) (a5 : Nat) (a6 : Nat) (a7 : Nat) (a8 : Nat) (a9 : Nat) (a10 : Nat) (a11 : Nat) (a12 : Nat) (a13 : Nat) (a14 : Nat) (a15 : Nat) (a16 : Nat) (a17 : Nat) (a18 : Nat) (a19 : Nat) (a20 : Nat) (a21 : Nat) (a22 : Nat) (a23 : Nat) (a24 : Nat) (a25 : Nat) (a26 : Nat) (a27 : Nat) (a28 : Nat) (a29 : Nat) (a30 : Nat) (a31 : Nat) (a32 : Nat) (a33 : Nat) (a34 : Nat) (a35 : Nat) (a36 : Nat) (a37 : Nat) (a38 : Nat) (a39 : Nat) (a40 : Nat) (a41 : Nat) (a42 : Nat) (a43 : Nat) (a44 : Nat) (a45 : Nat) (a46 : Nat) (a47 : Nat) (a48 : Nat) (a49 : Nat) (a50 : Nat) (a51 : Nat) : Met l yX10_end (Cond.code yX10_end cX10_end 2 (some .int) :: TB) ({ frames := 1, cells := 0, slots := 0, locals := 100 }) (XP (dC, dI) adK adV [.ref a0, .int p0] sz [(a0, .inr (10, [.ref a1, .ref a2, .int 0, .int 0, .int 0, .int (-1), .int 0, .int 0, .int 0, .int 0, .long 0, .ref a3, .ref a4, .ref a5, .ref a6, .ref a7, .ref a8, .ref a9, .ref a10, .ref a11, .ref a12, .ref a13, .ref a14, .ref a15, .ref a16, .ref a17, .ref a18, .ref a19, .ref a20, .ref a21, .ref a22, .ref a23, .ref a24, .ref a25, .ref a26, .ref a27, .ref a28, .ref a29, .ref a30, .ref a31, .ref a32, .ref a33, .int 0, .int 0, .int 0, .int 0, .int 0, .ref a34, .ref a35, .ref a36, .ref a37, .ref a38, .ref a39, .ref a40, .ref a41, .ref a42, .ref a43, .ref a44, .int 0, .int 0, .ref a45, .ref a46, .ref a47, .ref a48, .ref a49, .ref a50, .ref a51]))] []) (va_Qi (fun (r : Int32) (_ : Unit) => r = res_end p0) (fun _ _ => True) (va_A [(a0, .inr (10, [.ref a1, .ref a2, .int 0, .int 0, .int 0, .int (-1), .int 0, .int 0, .int 0, .int 0, .long 0, .ref a3, .ref a4, .ref a5, .ref a6, .ref a7, .ref a8, .ref a9, .ref a10, .ref a11, .ref a12, .ref a13, .ref a14, .ref a15, .ref a16, .ref a17, .ref a18, .ref a19, .ref a20, .ref a21, .ref a22, .ref a23, .ref a24, .ref a25, .ref a26, .ref a27, .ref a28, .ref a29, .ref a30, .ref a31, .ref a32, .ref a33, .int 0, .int 0, .int 0, .int 0, .int 0, .ref a34, .ref a35, .ref a36, .ref a37, .ref a38, .ref a39, .ref a40, .ref a41, .ref a42, .ref a43, .ref a44, .int 0, .int 0, .ref a45, .ref a46, .ref a47, .ref a48, .ref a49, .ref a50, .ref a51]))] sz)) 0 0 (va_A [(a0, .inr (10, [.ref a1, .ref a2, .int 0, .int 0, .int 0, .int (-1), .int 0, .int 0, .int 0, .int 0, .long 0, .ref a3, .ref a4, .ref a5, .ref a6, .ref a7, .ref a8, .ref a9, .ref a10, .ref a11, .ref a12, .ref a13, .ref a14, .ref a15, .ref a16, .ref a17, .ref a18, .ref a19, .ref a20, .ref a21, .ref a22, .ref a23, .ref a24, .ref a25, .ref a26, .ref a27, .ref a28, .ref a29, .ref a30, .ref a31, .ref a32, .ref a33, .int 0, .int 0, .int 0, .int 0, .int 0, .ref a34, .ref a35, .ref a36, .ref a37, .ref a38, .ref a39, .ref a40, .ref a41, .ref a42, .ref a43, .ref a44, .int 0, .int 0, .ref a45, .ref a46, .ref a47, .ref a48, .ref a49, .ref a50, .ref a51]))] sz) := by
  refine Met.ofW (cc := cX10_end) (maxL := 2) (ret := (some .int)) (by decide) rfl ?_
  intro p e s m args below meth c s₁ B hml hv
  obtain ⟨rfl, hsz, hP, hK, hD0, hC⟩ := hv
  have hx := B.exec
  have hb := B.bytes
  have hr := B.returns
  have hts0 := atoms_spec (ws := Cond.code yX10_end cX10_end 2 (some .int) :: TB) B.pre
  have hts : ∀ w ∈ TB, w.before _ s = true := fun w h => hts0 w (List.mem_cons_of_mem _ h)
  have hown : s.vm.findClass RX10 = some m.cls := findClass_of_methodNamed B.named
  have hlocks := B.notSynchronized
  subst hsz
  have hD := hD0.self (sz := s.heap.size)
  generalize hAe : va_A [(a0, .inr (10, [.ref a1, .ref a2, .int 0, .int 0, .int 0, .int (-1), .int 0, .int 0, .int 0, .int 0, .long 0, .ref a3, .ref a4, .ref a5, .ref a6, .ref a7, .ref a8, .ref a9, .ref a10, .ref a11, .ref a12, .ref a13, .ref a14, .ref a15, .ref a16, .ref a17, .ref a18, .ref a19, .ref a20, .ref a21, .ref a22, .ref a23, .ref a24, .ref a25, .ref a26, .ref a27, .ref a28, .ref a29, .ref a30, .ref a31, .ref a32, .ref a33, .int 0, .int 0, .int 0, .int 0, .int 0, .ref a34, .ref a35, .ref a36, .ref a37, .ref a38, .ref a39, .ref a40, .ref a41, .ref a42, .ref a43, .ref a44, .int 0, .int 0, .ref a45, .ref a46, .ref a47, .ref a48, .ref a49, .ref a50, .ref a51]))] s.heap.size = A at hD hC ⊢
  have hA : ∀ q : Nat, s.heap.size ≤ q → A q := fun q h => by rw [← hAe]; exact Or.inr h
  have hl := lv_entry ([.ref a0, .int p0]) (n := 2) (Nat.le_of_ble_eq_true rfl)
  rw [lg_entry_eq]
  generalize (lg_sl ([.ref a0, .int p0]) ++ List.replicate (2 - (lg_sl ([.ref a0, .int p0])).length) Slot.unset).toArray = ls at hl ⊢
  have hl : lv_has ls 2 [(0, .ref a0), (1, .int p0)] := hl
  have hP : va_P (dC, dI) CL [(a0, .inr (10, [.ref a1, .ref a2, .int 0, .int 0, .int 0, .int (-1), .int 0, .int 0, .int 0, .int 0, .long 0, .ref a3, .ref a4, .ref a5, .ref a6, .ref a7, .ref a8, .ref a9, .ref a10, .ref a11, .ref a12, .ref a13, .ref a14, .ref a15, .ref a16, .ref a17, .ref a18, .ref a19, .ref a20, .ref a21, .ref a22, .ref a23, .ref a24, .ref a25, .ref a26, .ref a27, .ref a28, .ref a29, .ref a30, .ref a31, .ref a32, .ref a33, .int 0, .int 0, .int 0, .int 0, .int 0, .ref a34, .ref a35, .ref a36, .ref a37, .ref a38, .ref a39, .ref a40, .ref a41, .ref a42, .ref a43, .ref a44, .int 0, .int 0, .ref a45, .ref a46, .ref a47, .ref a48, .ref a49, .ref a50, .ref a51]))] s.heap := hP
  obtain ⟨H, hH⟩ : ∃ z, z = s.heap := ⟨_, rfl⟩
  rw [← hH] at hP ⊢
  have hS : va_S A s.heap H [] := by rw [hH]; exact va_S.rf
  refine lv_iload_n hx hb dX10_end_0 rfl (lv_at hl 1 rfl) ?_
  refine lv_if_lt (tgt := 12) hx hb dX10_end_1 (by decide) (fun c_1 => ?_) (fun c_1 => ?_)
  · refine lv_iconst (v := (-1)) hx hb dX10_end_12 (by decide) ?_
    refine W.widen (k := 0) (n := 0) (Nat.le_of_ble_eq_true rfl) (Nat.le_of_ble_eq_true rfl) ?_
    exact W.iret (v := (-1)) hx hb hr (fun t ht hW => ⟨⟨(-1), (), rfl, (by first | decide | exact (if_pos (by have kc_1 := lt_i c_1; simp only [xi_0] at kc_1; omega)).symm | exact (if_neg (by have kc_1 := lt_i c_1; simp only [xi_0] at kc_1; omega)).symm), trivial⟩, hS.F ht⟩) hS.2.2 dX10_end_13
  · refine lv_iload_n hx hb dX10_end_4 rfl (lv_at hl 1 rfl) ?_
    refine lv_aload_n hx hb dX10_end_5 rfl (lv_at hl 0 rfl) ?_
    refine va_get (D := (dC, dI)) (ci := 10) (v := .int 0) (C := RX10) (T := TX10) (N := 67) hx hb hts iwX10 hown hK hP 0 rfl rfl 2 (by decide) (hts _ mw_1178) (fun _ h9 => h9) rfl dX10_end_6 ?_
    refine lv_icmp_le (tgt := 14) hx hb dX10_end_9 (by decide) (fun c_2 => ?_) (fun c_2 => ?_)
    · obtain rfl : p0 = 0 := Int32.toInt_inj.mp (by rw [xi_0]; have kc_1 := nlt_i c_1; have kc_2 := le_i c_2; simp only [xi_0] at kc_1 kc_2; omega)
      refine lv_aload_n hx hb dX10_end_14 rfl (lv_at hl 0 rfl) ?_
      refine lv_iload_n hx hb dX10_end_15 rfl (lv_at hl 1 rfl) ?_
      refine va_put (D := (dC, dI)) (ci := 10) (v := .int 0) (ty := .int) (C := RX10) (T := TX10) (N := 67) hx hb hts iwX10 tyX10 tyX10_ok nmX10 hown hK hP hD hS 0 rfl rfl 2 (by decide) (hts _ mw_1178) (fun _ h9 => h9) rfl (by decide +kernel) rfl rfl (Nat.le_of_ble_eq_true rfl) dX10_end_16 (fun H locs hP hD hS => ?_)
      have hP : va_P (dC, dI) CL [(a0, .inr (10, [.ref a1, .ref a2, .int 0, .int 0, .int 0, .int (-1), .int 0, .int 0, .int 0, .int 0, .long 0, .ref a3, .ref a4, .ref a5, .ref a6, .ref a7, .ref a8, .ref a9, .ref a10, .ref a11, .ref a12, .ref a13, .ref a14, .ref a15, .ref a16, .ref a17, .ref a18, .ref a19, .ref a20, .ref a21, .ref a22, .ref a23, .ref a24, .ref a25, .ref a26, .ref a27, .ref a28, .ref a29, .ref a30, .ref a31, .ref a32, .ref a33, .int 0, .int 0, .int 0, .int 0, .int 0, .ref a34, .ref a35, .ref a36, .ref a37, .ref a38, .ref a39, .ref a40, .ref a41, .ref a42, .ref a43, .ref a44, .int 0, .int 0, .ref a45, .ref a46, .ref a47, .ref a48, .ref a49, .ref a50, .ref a51]))] H := hP
      have hD : va_D A [(a0, .inr (10, [.ref a1, .ref a2, .int 0, .int 0, .int 0, .int (-1), .int 0, .int 0, .int 0, .int 0, .long 0, .ref a3, .ref a4, .ref a5, .ref a6, .ref a7, .ref a8, .ref a9, .ref a10, .ref a11, .ref a12, .ref a13, .ref a14, .ref a15, .ref a16, .ref a17, .ref a18, .ref a19, .ref a20, .ref a21, .ref a22, .ref a23, .ref a24, .ref a25, .ref a26, .ref a27, .ref a28, .ref a29, .ref a30, .ref a31, .ref a32, .ref a33, .int 0, .int 0, .int 0, .int 0, .int 0, .ref a34, .ref a35, .ref a36, .ref a37, .ref a38, .ref a39, .ref a40, .ref a41, .ref a42, .ref a43, .ref a44, .int 0, .int 0, .ref a45, .ref a46, .ref a47, .ref a48, .ref a49, .ref a50, .ref a51]))] := hD
      refine lv_iload_n hx hb dX10_end_19 rfl (lv_at hl 1 rfl) ?_
      refine W.widen (k := 0) (n := 0) (Nat.le_of_ble_eq_true rfl) (Nat.le_of_ble_eq_true rfl) ?_
      exact W.iret (v := 0) hx hb hr (fun t ht hW => ⟨⟨0, (), rfl, (by first | decide | exact (if_pos (by omega)).symm | exact (if_neg (by omega)).symm), trivial⟩, hS.F ht⟩) hS.2.2 dX10_end_20
    · refine lv_iconst (v := (-1)) hx hb dX10_end_12 (by decide) ?_
      refine W.widen (k := 0) (n := 0) (Nat.le_of_ble_eq_true rfl) (Nat.le_of_ble_eq_true rfl) ?_
      exact W.iret (v := (-1)) hx hb hr (fun t ht hW => ⟨⟨(-1), (), rfl, (by first | decide | exact (if_pos (by have kc_1 := nlt_i c_1; have kc_2 := nle_i c_2; simp only [xi_0] at kc_1 kc_2; omega)).symm | exact (if_neg (by have kc_1 := nlt_i c_1; have kc_2 := nle_i c_2; simp only [xi_0] at kc_1 kc_2; omega)).symm), trivial⟩, hS.F ht⟩) hS.2.2 dX10_end_13
set_option maxHeartbeats 4000000 in
set_option maxRecDepth 100000 in
theorem lpX10_clearBank_2_150 {p : Program} {l : Launch} {e : Env} {s : State} {m : MethodId} {args : Array Value} {below : List Frame} {meth : Method} {c : Code} {Q : State → Prop} {dC : Nat → ClassId} {dI : Nat → Nat → Nat} {adK adV : Nat → Nat} {A : Nat → Prop} {a1 : Nat} {k0 : ClassId} {a2 : Nat} {k1 : ClassId} {a3 : Nat} {k2 : ClassId} {a4 : Nat} {k3 : ClassId} {a5 : Nat} {k4 : ClassId} {a6 : Nat} {k5 : ClassId} {a7 : Nat} {k6 : ClassId} {a8 : Nat} {k7 : ClassId} {a9 : Nat} {k8 : ClassId} {a10 : Nat} {k9 : ClassId} {f0 : Nat → Int32} {a11 : Nat} {k10 : ClassId} {f1 : Nat → Int32} {a12 : Nat} {k11 : ClassId} {a13 : Nat} {k12 : ClassId} {a14 : Nat} {k13 : ClassId} {a15 : Nat} {k14 : ClassId} {a0 : Nat} {a16 : Nat} {a17 : Nat} {a18 : Nat} {a19 : Nat} {a20 : Nat} {a21 : Nat} {a22 : Nat} {a23 : Nat} {a24 : Nat} {a25 : Nat} {a26 : Nat} {a27 : Nat} {a28 : Nat} {a29 : Nat} {a30 : Nat} {a31 : Nat} {a32 : Nat} {a33 : Nat} {a34 : Nat} {a35 : Nat} {a36 : Nat} {a37 : Nat} {a38 : Nat} {a39 : Nat} {a40 : Nat} {a41 : Nat} {a42 : Nat} {a43 : Nat} {a44 : Nat} {a45 : Nat} {a46 : Nat} {a47 : Nat} {a48 : Nat} {a49 : Nat} {a50 : Nat} {a51 : Nat} {k15 : ClassId} (hx : p.tables.exec = Jvm.exec) (hb : c.code = cX10_clearBank) (hml : c.maxLocals = 2) (hown : s.vm.findClass RX10 = some m.cls) (hts : ∀ w ∈ TB, w.before args s = true) (hC : XC adK adV A s s.heap) (hA : ∀ q : Nat, s.heap.size ≤ q → A q) (hK : va_K (dC, dI) CL [(k0, .int), (k1, .int), (k2, .int), (k3, .int), (k4, .int), (k5, .int), (k6, .int), (k7, .int), (k8, .int), (k9, .int), (k10, .int), (k11, .boolean), (k12, .boolean), (k13, .boolean), (k14, .boolean), (k15, .int)] s) (kk : ∀ (g0 : Nat → Int32) (H : Heap) (locs : List Loc) (ls : Array Slot), va_P (dC, dI) CL [(a1, .inl (k0, 2, .inl (fun _ => 0))), (a2, .inl (k1, 2, .inl (fun _ => 0))), (a3, .inl (k2, 2, .inl (fun _ => 0))), (a4, .inl (k3, 2, .inl (fun _ => 0))), (a5, .inl (k4, 2, .inl (fun _ => 0))), (a6, .inl (k5, 2, .inl (fun _ => 0))), (a7, .inl (k6, 2, .inl (fun _ => 0))), (a8, .inl (k7, 2, .inl (fun _ => 0))), (a9, .inl (k8, 2, .inl (fun _ => 0))), (a10, .inl (k9, 10, .inl f0)), (a11, .inl (k10, 2880, .inl f1)), (a12, .inl (k11, 72, .inl g0)), (a13, .inl (k12, 2, .inl (fun _ => 0))), (a14, .inl (k13, 2, .inl (fun _ => 0))), (a15, .inl (k14, 2, .inl (fun _ => 0))), (a0, .inr (10, [.ref a16, .ref a17, .int 0, .int 0, .int 0, .int (-1), .int 0, .int 0, .int 0, .int 0, .long 0, .ref a1, .ref a2, .ref a3, .ref a4, .ref a5, .ref a6, .ref a7, .ref a8, .ref a18, .ref a9, .ref a10, .ref a19, .ref a20, .ref a21, .ref a22, .ref a23, .ref a24, .ref a11, .ref a25, .ref a12, .ref a13, .ref a14, .ref a15, .ref a26, .ref a27, .ref a28, .ref a29, .ref a30, .ref a31, .ref a32, .ref a33, .int 0, .int 1, .int 500, .int 0, .int 0, .ref a34, .ref a35, .ref a36, .ref a37, .ref a38, .ref a39, .ref a40, .ref a41, .ref a42, .ref a43, .ref a44, .int 0, .int 0, .ref a45, .ref a46, .ref a47, .ref a48, .ref a49, .ref a50, .ref a51])), (a18, .inl (k15, 2, .inl (fun _ => 0)))] H → va_D A [(a1, .inl (k0, 2, .inl (fun _ => 0))), (a2, .inl (k1, 2, .inl (fun _ => 0))), (a3, .inl (k2, 2, .inl (fun _ => 0))), (a4, .inl (k3, 2, .inl (fun _ => 0))), (a5, .inl (k4, 2, .inl (fun _ => 0))), (a6, .inl (k5, 2, .inl (fun _ => 0))), (a7, .inl (k6, 2, .inl (fun _ => 0))), (a8, .inl (k7, 2, .inl (fun _ => 0))), (a9, .inl (k8, 2, .inl (fun _ => 0))), (a10, .inl (k9, 10, .inl f0)), (a11, .inl (k10, 2880, .inl f1)), (a12, .inl (k11, 72, .inl g0)), (a13, .inl (k12, 2, .inl (fun _ => 0))), (a14, .inl (k13, 2, .inl (fun _ => 0))), (a15, .inl (k14, 2, .inl (fun _ => 0))), (a0, .inr (10, [.ref a16, .ref a17, .int 0, .int 0, .int 0, .int (-1), .int 0, .int 0, .int 0, .int 0, .long 0, .ref a1, .ref a2, .ref a3, .ref a4, .ref a5, .ref a6, .ref a7, .ref a8, .ref a18, .ref a9, .ref a10, .ref a19, .ref a20, .ref a21, .ref a22, .ref a23, .ref a24, .ref a11, .ref a25, .ref a12, .ref a13, .ref a14, .ref a15, .ref a26, .ref a27, .ref a28, .ref a29, .ref a30, .ref a31, .ref a32, .ref a33, .int 0, .int 1, .int 500, .int 0, .int 0, .ref a34, .ref a35, .ref a36, .ref a37, .ref a38, .ref a39, .ref a40, .ref a41, .ref a42, .ref a43, .ref a44, .int 0, .int 0, .ref a45, .ref a46, .ref a47, .ref a48, .ref a49, .ref a50, .ref a51])), (a18, .inl (k15, 2, .inl (fun _ => 0)))] → va_S A s.heap H locs → lv_has ls 2 [(1, .int 72), (0, .ref a0)] → W p l e (headSpec (Cond.code yX10_clearBank cX10_clearBank 2 none :: TB) ({ frames := 1, cells := 0, slots := 0, locals := 100 })).room s m args below meth c H locs 0 0 Q (F0 m 150 ls [])) : ∀ (n i : Nat), i + n = 72 → ∀ (g0 : Nat → Int32) (H : Heap) (locs : List Loc) (ls : Array Slot), va_P (dC, dI) CL [(a1, .inl (k0, 2, .inl (fun _ => 0))), (a2, .inl (k1, 2, .inl (fun _ => 0))), (a3, .inl (k2, 2, .inl (fun _ => 0))), (a4, .inl (k3, 2, .inl (fun _ => 0))), (a5, .inl (k4, 2, .inl (fun _ => 0))), (a6, .inl (k5, 2, .inl (fun _ => 0))), (a7, .inl (k6, 2, .inl (fun _ => 0))), (a8, .inl (k7, 2, .inl (fun _ => 0))), (a9, .inl (k8, 2, .inl (fun _ => 0))), (a10, .inl (k9, 10, .inl f0)), (a11, .inl (k10, 2880, .inl f1)), (a12, .inl (k11, 72, .inl g0)), (a13, .inl (k12, 2, .inl (fun _ => 0))), (a14, .inl (k13, 2, .inl (fun _ => 0))), (a15, .inl (k14, 2, .inl (fun _ => 0))), (a0, .inr (10, [.ref a16, .ref a17, .int 0, .int 0, .int 0, .int (-1), .int 0, .int 0, .int 0, .int 0, .long 0, .ref a1, .ref a2, .ref a3, .ref a4, .ref a5, .ref a6, .ref a7, .ref a8, .ref a18, .ref a9, .ref a10, .ref a19, .ref a20, .ref a21, .ref a22, .ref a23, .ref a24, .ref a11, .ref a25, .ref a12, .ref a13, .ref a14, .ref a15, .ref a26, .ref a27, .ref a28, .ref a29, .ref a30, .ref a31, .ref a32, .ref a33, .int 0, .int 1, .int 500, .int 0, .int 0, .ref a34, .ref a35, .ref a36, .ref a37, .ref a38, .ref a39, .ref a40, .ref a41, .ref a42, .ref a43, .ref a44, .int 0, .int 0, .ref a45, .ref a46, .ref a47, .ref a48, .ref a49, .ref a50, .ref a51])), (a18, .inl (k15, 2, .inl (fun _ => 0)))] H → va_D A [(a1, .inl (k0, 2, .inl (fun _ => 0))), (a2, .inl (k1, 2, .inl (fun _ => 0))), (a3, .inl (k2, 2, .inl (fun _ => 0))), (a4, .inl (k3, 2, .inl (fun _ => 0))), (a5, .inl (k4, 2, .inl (fun _ => 0))), (a6, .inl (k5, 2, .inl (fun _ => 0))), (a7, .inl (k6, 2, .inl (fun _ => 0))), (a8, .inl (k7, 2, .inl (fun _ => 0))), (a9, .inl (k8, 2, .inl (fun _ => 0))), (a10, .inl (k9, 10, .inl f0)), (a11, .inl (k10, 2880, .inl f1)), (a12, .inl (k11, 72, .inl g0)), (a13, .inl (k12, 2, .inl (fun _ => 0))), (a14, .inl (k13, 2, .inl (fun _ => 0))), (a15, .inl (k14, 2, .inl (fun _ => 0))), (a0, .inr (10, [.ref a16, .ref a17, .int 0, .int 0, .int 0, .int (-1), .int 0, .int 0, .int 0, .int 0, .long 0, .ref a1, .ref a2, .ref a3, .ref a4, .ref a5, .ref a6, .ref a7, .ref a8, .ref a18, .ref a9, .ref a10, .ref a19, .ref a20, .ref a21, .ref a22, .ref a23, .ref a24, .ref a11, .ref a25, .ref a12, .ref a13, .ref a14, .ref a15, .ref a26, .ref a27, .ref a28, .ref a29, .ref a30, .ref a31, .ref a32, .ref a33, .int 0, .int 1, .int 500, .int 0, .int 0, .ref a34, .ref a35, .ref a36, .ref a37, .ref a38, .ref a39, .ref a40, .ref a41, .ref a42, .ref a43, .ref a44, .int 0, .int 0, .ref a45, .ref a46, .ref a47, .ref a48, .ref a49, .ref a50, .ref a51])), (a18, .inl (k15, 2, .inl (fun _ => 0)))] → va_S A s.heap H locs → lv_has ls 2 [(1, .int (nI i)), (0, .ref a0)] → W p l e (headSpec (Cond.code yX10_clearBank cX10_clearBank 2 none :: TB) ({ frames := 1, cells := 0, slots := 0, locals := 100 })).room s m args below meth c H locs 0 0 Q (F0 m 150 ls []) := by
  intro n
  induction n with
  | zero =>
    intro i hi g0  H locs ls hP hD hS hl
    have hi : i = 72 := by omega
    subst hi
    exact kk g0  H locs ls hP hD hS hl
  | succ n ih =>
    intro i hi g0  H locs ls hP hD hS hl
    have hlt : i < 72 := by omega
    refine lv_iload_n hx hb dX10_clearBank_150 rfl (lv_at hl 0 rfl) ?_
    refine lv_bipush (v := 36) hx hb dX10_clearBank_151 (by decide) ?_
    refine lv_aload_n hx hb dX10_clearBank_153 rfl (lv_at hl 1 rfl) ?_
    refine va_get (D := (dC, dI)) (ci := 10) (v := .int 1) (C := RX10) (T := TX10) (N := 67) hx hb hts iwX10 hown hK hP 15 rfl rfl 43 (by decide) (hts _ mw_1219) (fun _ h9 => h9) rfl dX10_clearBank_154 ?_
    refine lv_imul hx hb dX10_clearBank_157 ?_
    refine x_lit 36 (by decide) ?_
    refine lv_bipush (v := 36) hx hb dX10_clearBank_158 (by decide) ?_
    refine lv_iadd hx hb dX10_clearBank_160 ?_
    refine x_lit 72 (by decide) ?_
    refine lv_icmp_ge (tgt := 177) hx hb dX10_clearBank_161 (by decide) (fun h => absurd h (nI_ge (a := i) (b := 72) hlt (by decide))) (fun _ => ?_)
    refine lv_aload_n hx hb dX10_clearBank_164 rfl (lv_at hl 1 rfl) ?_
    refine va_get (D := (dC, dI)) (ci := 10) (v := .ref a12) (C := RX10) (T := TX10) (N := 67) hx hb hts iwX10 hown hK hP 15 rfl rfl 30 (by decide) (hts _ mw_1206) (fun _ h9 => h9) rfl dX10_clearBank_165 ?_
    refine lv_iload_n hx hb dX10_clearBank_168 rfl (lv_at hl 0 rfl) ?_
    refine lv_iconst (v := 0) hx hb dX10_clearBank_169 (by decide) ?_
    refine xh_zast hx hb hK hP hD hS 11 11 rfl rfl (vp_in_nI (by omega) (by decide)) dX10_clearBank_170 (fun f_501 H locs hP hD hS => ?_)
    have hP : va_P (dC, dI) CL [(a1, .inl (k0, 2, .inl (fun _ => 0))), (a2, .inl (k1, 2, .inl (fun _ => 0))), (a3, .inl (k2, 2, .inl (fun _ => 0))), (a4, .inl (k3, 2, .inl (fun _ => 0))), (a5, .inl (k4, 2, .inl (fun _ => 0))), (a6, .inl (k5, 2, .inl (fun _ => 0))), (a7, .inl (k6, 2, .inl (fun _ => 0))), (a8, .inl (k7, 2, .inl (fun _ => 0))), (a9, .inl (k8, 2, .inl (fun _ => 0))), (a10, .inl (k9, 10, .inl f0)), (a11, .inl (k10, 2880, .inl f1)), (a12, .inl (k11, 72, .inl f_501)), (a13, .inl (k12, 2, .inl (fun _ => 0))), (a14, .inl (k13, 2, .inl (fun _ => 0))), (a15, .inl (k14, 2, .inl (fun _ => 0))), (a0, .inr (10, [.ref a16, .ref a17, .int 0, .int 0, .int 0, .int (-1), .int 0, .int 0, .int 0, .int 0, .long 0, .ref a1, .ref a2, .ref a3, .ref a4, .ref a5, .ref a6, .ref a7, .ref a8, .ref a18, .ref a9, .ref a10, .ref a19, .ref a20, .ref a21, .ref a22, .ref a23, .ref a24, .ref a11, .ref a25, .ref a12, .ref a13, .ref a14, .ref a15, .ref a26, .ref a27, .ref a28, .ref a29, .ref a30, .ref a31, .ref a32, .ref a33, .int 0, .int 1, .int 500, .int 0, .int 0, .ref a34, .ref a35, .ref a36, .ref a37, .ref a38, .ref a39, .ref a40, .ref a41, .ref a42, .ref a43, .ref a44, .int 0, .int 0, .ref a45, .ref a46, .ref a47, .ref a48, .ref a49, .ref a50, .ref a51])), (a18, .inl (k15, 2, .inl (fun _ => 0)))] H := hP
    have hD : va_D A [(a1, .inl (k0, 2, .inl (fun _ => 0))), (a2, .inl (k1, 2, .inl (fun _ => 0))), (a3, .inl (k2, 2, .inl (fun _ => 0))), (a4, .inl (k3, 2, .inl (fun _ => 0))), (a5, .inl (k4, 2, .inl (fun _ => 0))), (a6, .inl (k5, 2, .inl (fun _ => 0))), (a7, .inl (k6, 2, .inl (fun _ => 0))), (a8, .inl (k7, 2, .inl (fun _ => 0))), (a9, .inl (k8, 2, .inl (fun _ => 0))), (a10, .inl (k9, 10, .inl f0)), (a11, .inl (k10, 2880, .inl f1)), (a12, .inl (k11, 72, .inl f_501)), (a13, .inl (k12, 2, .inl (fun _ => 0))), (a14, .inl (k13, 2, .inl (fun _ => 0))), (a15, .inl (k14, 2, .inl (fun _ => 0))), (a0, .inr (10, [.ref a16, .ref a17, .int 0, .int 0, .int 0, .int (-1), .int 0, .int 0, .int 0, .int 0, .long 0, .ref a1, .ref a2, .ref a3, .ref a4, .ref a5, .ref a6, .ref a7, .ref a8, .ref a18, .ref a9, .ref a10, .ref a19, .ref a20, .ref a21, .ref a22, .ref a23, .ref a24, .ref a11, .ref a25, .ref a12, .ref a13, .ref a14, .ref a15, .ref a26, .ref a27, .ref a28, .ref a29, .ref a30, .ref a31, .ref a32, .ref a33, .int 0, .int 1, .int 500, .int 0, .int 0, .ref a34, .ref a35, .ref a36, .ref a37, .ref a38, .ref a39, .ref a40, .ref a41, .ref a42, .ref a43, .ref a44, .int 0, .int 0, .ref a45, .ref a46, .ref a47, .ref a48, .ref a49, .ref a50, .ref a51])), (a18, .inl (k15, 2, .inl (fun _ => 0)))] := hD
    refine lv_iinc (v := (nI (i + 1))) (lv' := [(1, .int (nI (i + 1))), (0, .ref a0)]) hx hb dX10_clearBank_171 hl (k := 0) rfl (nI_1 _) (by decide) rfl (fun ls hl => ?_)
    refine lv_goto (tgt := 150) hx hb dX10_clearBank_174 (by decide) ?_
    exact ih (i + 1) (by omega) f_501 _ _ _ (hP.sub [0, 1, 2, 3, 4, 5, 6, 7, 8, 9, 10, 11, 12, 13, 14, 15, 16] rfl) (hD.sub [0, 1, 2, 3, 4, 5, 6, 7, 8, 9, 10, 11, 12, 13, 14, 15, 16] (by decide) rfl) hS (lv_sub hl [0, 1] rfl)
