set_option maxHeartbeats 4000000 in
set_option maxRecDepth 100000 in
theorem zX10_rounds (l : Launch) (dC : Nat → ClassId) (dI : Nat → Nat → Nat) (adK adV : Nat → Nat) (sz : Nat) (a0 : Nat) (p0 : Int32) (p1 : Int32) (a1 : Nat) (k0 : ClassId) (f0 : Nat → Int32) (a2 : Nat) (k1 : ClassId) (f1 : Nat → Int32) (a3 : Nat) (k2 : ClassId) (f2 : Nat → Int32) (a4 : Nat) (k3 : ClassId) (a5 : Nat) (a6 : Nat) (a7 : Nat) (a8 : Nat) (a9 : Nat) (a10 : Nat) (a11 : Nat) (a12 : Nat) (a13 : Nat) (a14 : Nat) (a15 : Nat) (a16 : Nat) (a17 : Nat) (a18 : Nat) (a19 : Nat) (a20 : Nat) (a21 : Nat) (a22 : Nat) (a23 : Nat) (a24 : Nat) (a25 : Nat) (a26 : Nat) (a27 : Nat) (a28 : Nat) (a29 : Nat) (a30 : Nat) (a31 : Nat) (a32 : Nat) (a33 : Nat) (a34 : Nat) (a35 : Nat) (a36 : Nat) (a37 : Nat) (a38 : Nat) (a39 : Nat) (a40 : Nat) (a41 : Nat) (a42 : Nat) (a43 : Nat) (a44 : Nat) (a45 : Nat) (a46 : Nat) (a47 : Nat) (a48 : Nat) (a49 : Nat) (a50 : Nat) (a51 : Nat) (k4 : ClassId) : Met l yX10_rounds (Cond.code yX10_rounds cX10_rounds 3 (some .int) :: TB) ({ frames := 3, cells := 0, slots := 0, locals := 145 }) (XP (dC, dI) adK adV [.ref a0, .int p0, .int p1] sz [(a1, .inl (k0, 256, .inl f0)), (a2, .inl (k1, 256, .inl f1)), (a3, .inl (k2, 256, .inl f2)), (a4, .inl (k3, 2, .inl (fun _ => 0))), (a0, .inr (10, [.ref a5, .ref a6, .int 0, .int 0, .int 0, .int (-1), .int 0, .int 0, .int 0, .int 0, .long 0, .ref a7, .ref a8, .ref a9, .ref a10, .ref a11, .ref a12, .ref a4, .ref a13, .ref a14, .ref a15, .ref a16, .ref a17, .ref a18, .ref a19, .ref a20, .ref a21, .ref a22, .ref a23, .ref a24, .ref a25, .ref a26, .ref a27, .ref a28, .ref a29, .ref a30, .ref a31, .ref a32, .ref a33, .ref a34, .ref a35, .ref a36, .int 0, .int 0, .int 0, .int 0, .int 0, .ref a37, .ref a38, .ref a39, .ref a40, .ref a41, .ref a42, .ref a43, .ref a44, .ref a45, .ref a46, .ref a47, .int 0, .int 0, .ref a48, .ref a1, .ref a2, .ref a3, .ref a49, .ref a50, .ref a51])), (a14, .inl (k4, 2, .inl (fun _ => 0)))] [(k0, .int), (k1, .int), (k2, .int), (k3, .int), (k4, .int)]) (va_Qi (fun (r : Int32) (_ : Unit) => r = res_rounds p0 p1) (fun _ _ => True) (va_A [(a1, .inl (k0, 256, .inl f0)), (a2, .inl (k1, 256, .inl f1)), (a3, .inl (k2, 256, .inl f2)), (a4, .inl (k3, 2, .inl (fun _ => 0))), (a0, .inr (10, [.ref a5, .ref a6, .int 0, .int 0, .int 0, .int (-1), .int 0, .int 0, .int 0, .int 0, .long 0, .ref a7, .ref a8, .ref a9, .ref a10, .ref a11, .ref a12, .ref a4, .ref a13, .ref a14, .ref a15, .ref a16, .ref a17, .ref a18, .ref a19, .ref a20, .ref a21, .ref a22, .ref a23, .ref a24, .ref a25, .ref a26, .ref a27, .ref a28, .ref a29, .ref a30, .ref a31, .ref a32, .ref a33, .ref a34, .ref a35, .ref a36, .int 0, .int 0, .int 0, .int 0, .int 0, .ref a37, .ref a38, .ref a39, .ref a40, .ref a41, .ref a42, .ref a43, .ref a44, .ref a45, .ref a46, .ref a47, .int 0, .int 0, .ref a48, .ref a1, .ref a2, .ref a3, .ref a49, .ref a50, .ref a51])), (a14, .inl (k4, 2, .inl (fun _ => 0)))] sz)) 0 0 (va_A [(a1, .inl (k0, 256, .inl f0)), (a2, .inl (k1, 256, .inl f1)), (a3, .inl (k2, 256, .inl f2)), (a4, .inl (k3, 2, .inl (fun _ => 0))), (a0, .inr (10, [.ref a5, .ref a6, .int 0, .int 0, .int 0, .int (-1), .int 0, .int 0, .int 0, .int 0, .long 0, .ref a7, .ref a8, .ref a9, .ref a10, .ref a11, .ref a12, .ref a4, .ref a13, .ref a14, .ref a15, .ref a16, .ref a17, .ref a18, .ref a19, .ref a20, .ref a21, .ref a22, .ref a23, .ref a24, .ref a25, .ref a26, .ref a27, .ref a28, .ref a29, .ref a30, .ref a31, .ref a32, .ref a33, .ref a34, .ref a35, .ref a36, .int 0, .int 0, .int 0, .int 0, .int 0, .ref a37, .ref a38, .ref a39, .ref a40, .ref a41, .ref a42, .ref a43, .ref a44, .ref a45, .ref a46, .ref a47, .int 0, .int 0, .ref a48, .ref a1, .ref a2, .ref a3, .ref a49, .ref a50, .ref a51])), (a14, .inl (k4, 2, .inl (fun _ => 0)))] sz) := by
  refine Met.ofW (cc := cX10_rounds) (maxL := 3) (ret := (some .int)) (by decide) rfl ?_
  intro p e s m args below meth c s₁ B hml hv
  obtain ⟨rfl, hsz, hP, hK, hD0, hC⟩ := hv
  have hx := B.exec
  have hb := B.bytes
  have hr := B.returns
  have hts0 := atoms_spec (ws := Cond.code yX10_rounds cX10_rounds 3 (some .int) :: TB) B.pre
  have hts : ∀ w ∈ TB, w.before _ s = true := fun w h => hts0 w (List.mem_cons_of_mem _ h)
  have hown : s.vm.findClass RX10 = some m.cls := findClass_of_methodNamed B.named
  have hlocks := B.notSynchronized
  subst hsz
  have hD := hD0.self (sz := s.heap.size)
  generalize hAe : va_A [(a1, .inl (k0, 256, .inl f0)), (a2, .inl (k1, 256, .inl f1)), (a3, .inl (k2, 256, .inl f2)), (a4, .inl (k3, 2, .inl (fun _ => 0))), (a0, .inr (10, [.ref a5, .ref a6, .int 0, .int 0, .int 0, .int (-1), .int 0, .int 0, .int 0, .int 0, .long 0, .ref a7, .ref a8, .ref a9, .ref a10, .ref a11, .ref a12, .ref a4, .ref a13, .ref a14, .ref a15, .ref a16, .ref a17, .ref a18, .ref a19, .ref a20, .ref a21, .ref a22, .ref a23, .ref a24, .ref a25, .ref a26, .ref a27, .ref a28, .ref a29, .ref a30, .ref a31, .ref a32, .ref a33, .ref a34, .ref a35, .ref a36, .int 0, .int 0, .int 0, .int 0, .int 0, .ref a37, .ref a38, .ref a39, .ref a40, .ref a41, .ref a42, .ref a43, .ref a44, .ref a45, .ref a46, .ref a47, .int 0, .int 0, .ref a48, .ref a1, .ref a2, .ref a3, .ref a49, .ref a50, .ref a51])), (a14, .inl (k4, 2, .inl (fun _ => 0)))] s.heap.size = A at hD hC ⊢
  have hA : ∀ q : Nat, s.heap.size ≤ q → A q := fun q h => by rw [← hAe]; exact Or.inr h
  have hl := lv_entry ([.ref a0, .int p0, .int p1]) (n := 3) (Nat.le_of_ble_eq_true rfl)
  rw [lg_entry_eq]
  generalize (lg_sl ([.ref a0, .int p0, .int p1]) ++ List.replicate (3 - (lg_sl ([.ref a0, .int p0, .int p1])).length) Slot.unset).toArray = ls at hl ⊢
  have hl : lv_has ls 3 [(0, .ref a0), (1, .int p0), (2, .int p1)] := hl
  have hP : va_P (dC, dI) CL [(a1, .inl (k0, 256, .inl f0)), (a2, .inl (k1, 256, .inl f1)), (a3, .inl (k2, 256, .inl f2)), (a4, .inl (k3, 2, .inl (fun _ => 0))), (a0, .inr (10, [.ref a5, .ref a6, .int 0, .int 0, .int 0, .int (-1), .int 0, .int 0, .int 0, .int 0, .long 0, .ref a7, .ref a8, .ref a9, .ref a10, .ref a11, .ref a12, .ref a4, .ref a13, .ref a14, .ref a15, .ref a16, .ref a17, .ref a18, .ref a19, .ref a20, .ref a21, .ref a22, .ref a23, .ref a24, .ref a25, .ref a26, .ref a27, .ref a28, .ref a29, .ref a30, .ref a31, .ref a32, .ref a33, .ref a34, .ref a35, .ref a36, .int 0, .int 0, .int 0, .int 0, .int 0, .ref a37, .ref a38, .ref a39, .ref a40, .ref a41, .ref a42, .ref a43, .ref a44, .ref a45, .ref a46, .ref a47, .int 0, .int 0, .ref a48, .ref a1, .ref a2, .ref a3, .ref a49, .ref a50, .ref a51])), (a14, .inl (k4, 2, .inl (fun _ => 0)))] s.heap := hP
  obtain ⟨H, hH⟩ : ∃ z, z = s.heap := ⟨_, rfl⟩
  rw [← hH] at hP ⊢
  have hS : va_S A s.heap H [] := by rw [hH]; exact va_S.rf
  refine lv_aload_n hx hb dX10_rounds_0 rfl (lv_at hl 0 rfl) ?_
  refine lv_iload_n hx hb dX10_rounds_1 rfl (lv_at hl 1 rfl) ?_
  have hPc := hP.sub (ws' := [(a4, .inl (k3, 2, .inl (fun _ => 0))), (a0, .inr (10, [.ref a5, .ref a6, .int 0, .int 0, .int 0, .int (-1), .int 0, .int 0, .int 0, .int 0, .long 0, .ref a7, .ref a8, .ref a9, .ref a10, .ref a11, .ref a12, .ref a4, .ref a13, .ref a14, .ref a15, .ref a16, .ref a17, .ref a18, .ref a19, .ref a20, .ref a21, .ref a22, .ref a23, .ref a24, .ref a25, .ref a26, .ref a27, .ref a28, .ref a29, .ref a30, .ref a31, .ref a32, .ref a33, .ref a34, .ref a35, .ref a36, .int 0, .int 0, .int 0, .int 0, .int 0, .ref a37, .ref a38, .ref a39, .ref a40, .ref a41, .ref a42, .ref a43, .ref a44, .ref a45, .ref a46, .ref a47, .int 0, .int 0, .ref a48, .ref a1, .ref a2, .ref a3, .ref a49, .ref a50, .ref a51]))]) [3, 4] rfl
  have hDc := hD.sub (ws' := [(a4, .inl (k3, 2, .inl (fun _ => 0))), (a0, .inr (10, [.ref a5, .ref a6, .int 0, .int 0, .int 0, .int (-1), .int 0, .int 0, .int 0, .int 0, .long 0, .ref a7, .ref a8, .ref a9, .ref a10, .ref a11, .ref a12, .ref a4, .ref a13, .ref a14, .ref a15, .ref a16, .ref a17, .ref a18, .ref a19, .ref a20, .ref a21, .ref a22, .ref a23, .ref a24, .ref a25, .ref a26, .ref a27, .ref a28, .ref a29, .ref a30, .ref a31, .ref a32, .ref a33, .ref a34, .ref a35, .ref a36, .int 0, .int 0, .int 0, .int 0, .int 0, .ref a37, .ref a38, .ref a39, .ref a40, .ref a41, .ref a42, .ref a43, .ref a44, .ref a45, .ref a46, .ref a47, .int 0, .int 0, .ref a48, .ref a1, .ref a2, .ref a3, .ref a49, .ref a50, .ref a51]))]) [3, 4] (by decide) rfl
  have hKc := hK.sub (tys' := [(k3, .int)]) [3] rfl
  have hFc := va_free (wc := [(a4, .inl (k3, 2, .inl (fun _ => 0))), (a0, .inr (10, [.ref a5, .ref a6, .int 0, .int 0, .int 0, .int (-1), .int 0, .int 0, .int 0, .int 0, .long 0, .ref a7, .ref a8, .ref a9, .ref a10, .ref a11, .ref a12, .ref a4, .ref a13, .ref a14, .ref a15, .ref a16, .ref a17, .ref a18, .ref a19, .ref a20, .ref a21, .ref a22, .ref a23, .ref a24, .ref a25, .ref a26, .ref a27, .ref a28, .ref a29, .ref a30, .ref a31, .ref a32, .ref a33, .ref a34, .ref a35, .ref a36, .int 0, .int 0, .int 0, .int 0, .int 0, .ref a37, .ref a38, .ref a39, .ref a40, .ref a41, .ref a42, .ref a43, .ref a44, .ref a45, .ref a46, .ref a47, .int 0, .int 0, .ref a48, .ref a1, .ref a2, .ref a3, .ref a49, .ref a50, .ref a51]))]) hD hS hA [3, 4] rfl
  refine va_calli (va_runV (As := [.int p0]) (rest := []) ⟨hx, hb, hml, hown, hts⟩ (zX10_isSet l dC dI adK adV H.size a0 p0 a4 k3 a5 a6 a7 a8 a9 a10 a11 a12 a13 a14 a15 a16 a17 a18 a19 a20 a21 a22 a23 a24 a25 a26 a27 a28 a29 a30 a31 a32 a33 a34 a35 a36 a37 a38 a39 a40 a41 a42 a43 a44 a45 a46 a47 a48 a1 a2 a3 a49 a50 a51) (cwV 1 hts (tb_V mw_1666 mw_1668 mw_93 mw_115 mw_1669) rfl rfl rfl (by decide +kernel) ⟨Nat.le_of_ble_eq_true rfl, Nat.le_of_ble_eq_true rfl⟩) ⟨XB, va_recv hKc hPc (ci := 10) (q0 := 1) rfl rfl, XQ (av := [.ref a0, .int p0]) hPc hKc hDc hC hS hFc⟩ rfl rfl hl.1 rfl (lv_room (Nat.le_of_ble_eq_true rfl)) dX10_rounds_2 ⟨Nat.le_of_ble_eq_true rfl, Nat.le_of_ble_eq_true rfl⟩) hS (fun q _ h => hFc q h) hFc (fun r_1 u_9 t H1 locs ht hvm hw hB hz1 hk1 hS => ?_)
  try dsimp only at hw
  obtain ⟨hP1, hK1, hD1⟩ := hB
  rw [ht] at hP1
  have hK1 := va_K.moved hvm.symm hK1
  obtain ⟨hP, hD⟩ := va_join (wr := [(a1, .inl (k0, 256, .inl f0)), (a2, .inl (k1, 256, .inl f1)), (a3, .inl (k2, 256, .inl f2)), (a14, .inl (k4, 2, .inl (fun _ => 0)))]) (w1 := [(a4, .inl (k3, 2, .inl (fun _ => 0))), (a0, .inr (10, [.ref a5, .ref a6, .int 0, .int 0, .int 0, .int (-1), .int 0, .int 0, .int 0, .int 0, .long 0, .ref a7, .ref a8, .ref a9, .ref a10, .ref a11, .ref a12, .ref a4, .ref a13, .ref a14, .ref a15, .ref a16, .ref a17, .ref a18, .ref a19, .ref a20, .ref a21, .ref a22, .ref a23, .ref a24, .ref a25, .ref a26, .ref a27, .ref a28, .ref a29, .ref a30, .ref a31, .ref a32, .ref a33, .ref a34, .ref a35, .ref a36, .int 0, .int 0, .int 0, .int 0, .int 0, .ref a37, .ref a38, .ref a39, .ref a40, .ref a41, .ref a42, .ref a43, .ref a44, .ref a45, .ref a46, .ref a47, .int 0, .int 0, .ref a48, .ref a1, .ref a2, .ref a3, .ref a49, .ref a50, .ref a51]))]) hP hD [3, 4] [0, 1, 2, 5] rfl rfl (by decide) (by decide) hk1 hFc hP1 hD1
  have hK := (hK.sub (tys' := [(k0, .int), (k1, .int), (k2, .int), (k4, .int)]) [0, 1, 2, 4] rfl).app hK1
  generalize H1 = H at hP hS ⊢
  have hP : va_P (dC, dI) CL [(a1, .inl (k0, 256, .inl f0)), (a2, .inl (k1, 256, .inl f1)), (a3, .inl (k2, 256, .inl f2)), (a14, .inl (k4, 2, .inl (fun _ => 0))), (a4, .inl (k3, 2, .inl (fun _ => 0))), (a0, .inr (10, [.ref a5, .ref a6, .int 0, .int 0, .int 0, .int (-1), .int 0, .int 0, .int 0, .int 0, .long 0, .ref a7, .ref a8, .ref a9, .ref a10, .ref a11, .ref a12, .ref a4, .ref a13, .ref a14, .ref a15, .ref a16, .ref a17, .ref a18, .ref a19, .ref a20, .ref a21, .ref a22, .ref a23, .ref a24, .ref a25, .ref a26, .ref a27, .ref a28, .ref a29, .ref a30, .ref a31, .ref a32, .ref a33, .ref a34, .ref a35, .ref a36, .int 0, .int 0, .int 0, .int 0, .int 0, .ref a37, .ref a38, .ref a39, .ref a40, .ref a41, .ref a42, .ref a43, .ref a44, .ref a45, .ref a46, .ref a47, .int 0, .int 0, .ref a48, .ref a1, .ref a2, .ref a3, .ref a49, .ref a50, .ref a51]))] H := hP
  have hD : va_D A [(a1, .inl (k0, 256, .inl f0)), (a2, .inl (k1, 256, .inl f1)), (a3, .inl (k2, 256, .inl f2)), (a14, .inl (k4, 2, .inl (fun _ => 0))), (a4, .inl (k3, 2, .inl (fun _ => 0))), (a0, .inr (10, [.ref a5, .ref a6, .int 0, .int 0, .int 0, .int (-1), .int 0, .int 0, .int 0, .int 0, .long 0, .ref a7, .ref a8, .ref a9, .ref a10, .ref a11, .ref a12, .ref a4, .ref a13, .ref a14, .ref a15, .ref a16, .ref a17, .ref a18, .ref a19, .ref a20, .ref a21, .ref a22, .ref a23, .ref a24, .ref a25, .ref a26, .ref a27, .ref a28, .ref a29, .ref a30, .ref a31, .ref a32, .ref a33, .ref a34, .ref a35, .ref a36, .int 0, .int 0, .int 0, .int 0, .int 0, .ref a37, .ref a38, .ref a39, .ref a40, .ref a41, .ref a42, .ref a43, .ref a44, .ref a45, .ref a46, .ref a47, .int 0, .int 0, .ref a48, .ref a1, .ref a2, .ref a3, .ref a49, .ref a50, .ref a51]))] := hD
  have hK : va_K (dC, dI) CL [(k0, .int), (k1, .int), (k2, .int), (k4, .int), (k3, .int)] s := hK
  rcases hw with ⟨hw, h_2⟩ | ⟨hw, h_3, h_4⟩ | ⟨hw, h_5⟩
  · subst hw
    refine lv_if_eq (tgt := 17) hx hb dX10_rounds_5 (by decide) (fun _ => ?_) (fun h => (h (by decide)).elim)
    refine lv_iconst (v := (-1)) hx hb dX10_rounds_17 (by decide) ?_
    refine W.widen (k := 0) (n := 0) (Nat.le_of_ble_eq_true rfl) (Nat.le_of_ble_eq_true rfl) ?_
    exact W.iret (v := (-1)) hx hb hr (fun t ht hW => ⟨⟨(-1), (), rfl, (by first | decide | exact (if_pos (by have kh_2 := lt_i h_2; simp only [xi_0] at kh_2; omega)).symm | exact (if_neg (by have kh_2 := lt_i h_2; simp only [xi_0] at kh_2; omega)).symm), trivial⟩, hS.F ht⟩) hS.2.2 dX10_rounds_18
  · subst hw
    refine lv_if_eq (tgt := 17) hx hb dX10_rounds_5 (by decide) (fun _ => ?_) (fun h => (h (by decide)).elim)
    refine lv_iconst (v := (-1)) hx hb dX10_rounds_17 (by decide) ?_
    refine W.widen (k := 0) (n := 0) (Nat.le_of_ble_eq_true rfl) (Nat.le_of_ble_eq_true rfl) ?_
    exact W.iret (v := (-1)) hx hb hr (fun t ht hW => ⟨⟨(-1), (), rfl, (by first | decide | exact (if_pos (by have kh_3 := nlt_i h_3; have kh_4 := le_i h_4; simp only [xi_0, xi_1] at kh_3 kh_4; omega)).symm | exact (if_neg (by have kh_3 := nlt_i h_3; have kh_4 := le_i h_4; simp only [xi_0, xi_1] at kh_3 kh_4; omega)).symm), trivial⟩, hS.F ht⟩) hS.2.2 dX10_rounds_18
  · subst hw
    obtain rfl : p0 = 0 := Int32.toInt_inj.mp (by rw [xi_0]; have kh_5 := eq_i h_5; simp only [xi_0] at kh_5; omega)
    refine lv_if_eq (tgt := 17) hx hb dX10_rounds_5 (by decide) (fun h => absurd h (by decide)) (fun _ => ?_)
    refine lv_iload_n hx hb dX10_rounds_8 rfl (lv_at hl 2 rfl) ?_
    refine lv_iconst (v := 0) hx hb dX10_rounds_9 (by decide) ?_
    refine lv_iconst (v := 1) hx hb dX10_rounds_10 (by decide) ?_
    have hPc := hP.sub (ws' := []) [] rfl
    have hDc := hD.sub (ws' := []) [] (by decide) rfl
    have hKc := hK.sub (tys' := []) [] rfl
    have hFc := va_free (wc := []) hD hS hA [] rfl
    refine va_calli (va_runS (As := [.int p1, .int 0, .int 1]) (rest := []) ⟨hx, hb, hml, hown, hts⟩ (zX10_isIn_3 l dC dI adK adV H.size p1) (va_cwS 3 hts (tb_S mw_1123 mw_1124 mw_115 mw_1125) rfl rfl rfl (by decide +kernel) ⟨Nat.le_of_ble_eq_true rfl, Nat.le_of_ble_eq_true rfl⟩) ⟨XB, XQ (av := [.int p1, .int 0, .int 1]) hPc hKc hDc hC hS hFc⟩ rfl rfl hl.1 rfl (lv_room (Nat.le_of_ble_eq_true rfl)) dX10_rounds_11 ⟨Nat.le_of_ble_eq_true rfl, Nat.le_of_ble_eq_true rfl⟩) hS (fun q _ h => hFc q h) hFc (fun r_6 u_9 t H1 locs ht hvm hw hB hz1 hk1 hS => ?_)
    try dsimp only at hw
    obtain ⟨hP1, hK1, hD1⟩ := hB
    rw [ht] at hP1
    have hK1 := va_K.moved hvm.symm hK1
    obtain ⟨hP, hD⟩ := va_join (wr := [(a1, .inl (k0, 256, .inl f0)), (a2, .inl (k1, 256, .inl f1)), (a3, .inl (k2, 256, .inl f2)), (a14, .inl (k4, 2, .inl (fun _ => 0))), (a4, .inl (k3, 2, .inl (fun _ => 0))), (a0, .inr (10, [.ref a5, .ref a6, .int 0, .int 0, .int 0, .int (-1), .int 0, .int 0, .int 0, .int 0, .long 0, .ref a7, .ref a8, .ref a9, .ref a10, .ref a11, .ref a12, .ref a4, .ref a13, .ref a14, .ref a15, .ref a16, .ref a17, .ref a18, .ref a19, .ref a20, .ref a21, .ref a22, .ref a23, .ref a24, .ref a25, .ref a26, .ref a27, .ref a28, .ref a29, .ref a30, .ref a31, .ref a32, .ref a33, .ref a34, .ref a35, .ref a36, .int 0, .int 0, .int 0, .int 0, .int 0, .ref a37, .ref a38, .ref a39, .ref a40, .ref a41, .ref a42, .ref a43, .ref a44, .ref a45, .ref a46, .ref a47, .int 0, .int 0, .ref a48, .ref a1, .ref a2, .ref a3, .ref a49, .ref a50, .ref a51]))]) (w1 := []) hP hD [] [0, 1, 2, 3, 4, 5] rfl rfl (by decide) (by decide) hk1 hFc hP1 hD1
    have hK := (hK.sub (tys' := [(k0, .int), (k1, .int), (k2, .int), (k4, .int), (k3, .int)]) [0, 1, 2, 3, 4] rfl).app hK1
    generalize H1 = H at hP hS ⊢
    have hP : va_P (dC, dI) CL [(a1, .inl (k0, 256, .inl f0)), (a2, .inl (k1, 256, .inl f1)), (a3, .inl (k2, 256, .inl f2)), (a14, .inl (k4, 2, .inl (fun _ => 0))), (a4, .inl (k3, 2, .inl (fun _ => 0))), (a0, .inr (10, [.ref a5, .ref a6, .int 0, .int 0, .int 0, .int (-1), .int 0, .int 0, .int 0, .int 0, .long 0, .ref a7, .ref a8, .ref a9, .ref a10, .ref a11, .ref a12, .ref a4, .ref a13, .ref a14, .ref a15, .ref a16, .ref a17, .ref a18, .ref a19, .ref a20, .ref a21, .ref a22, .ref a23, .ref a24, .ref a25, .ref a26, .ref a27, .ref a28, .ref a29, .ref a30, .ref a31, .ref a32, .ref a33, .ref a34, .ref a35, .ref a36, .int 0, .int 0, .int 0, .int 0, .int 0, .ref a37, .ref a38, .ref a39, .ref a40, .ref a41, .ref a42, .ref a43, .ref a44, .ref a45, .ref a46, .ref a47, .int 0, .int 0, .ref a48, .ref a1, .ref a2, .ref a3, .ref a49, .ref a50, .ref a51]))] H := hP
    have hD : va_D A [(a1, .inl (k0, 256, .inl f0)), (a2, .inl (k1, 256, .inl f1)), (a3, .inl (k2, 256, .inl f2)), (a14, .inl (k4, 2, .inl (fun _ => 0))), (a4, .inl (k3, 2, .inl (fun _ => 0))), (a0, .inr (10, [.ref a5, .ref a6, .int 0, .int 0, .int 0, .int (-1), .int 0, .int 0, .int 0, .int 0, .long 0, .ref a7, .ref a8, .ref a9, .ref a10, .ref a11, .ref a12, .ref a4, .ref a13, .ref a14, .ref a15, .ref a16, .ref a17, .ref a18, .ref a19, .ref a20, .ref a21, .ref a22, .ref a23, .ref a24, .ref a25, .ref a26, .ref a27, .ref a28, .ref a29, .ref a30, .ref a31, .ref a32, .ref a33, .ref a34, .ref a35, .ref a36, .int 0, .int 0, .int 0, .int 0, .int 0, .ref a37, .ref a38, .ref a39, .ref a40, .ref a41, .ref a42, .ref a43, .ref a44, .ref a45, .ref a46, .ref a47, .int 0, .int 0, .ref a48, .ref a1, .ref a2, .ref a3, .ref a49, .ref a50, .ref a51]))] := hD
    have hK : va_K (dC, dI) CL [(k0, .int), (k1, .int), (k2, .int), (k4, .int), (k3, .int)] s := hK
    rcases hw with ⟨hw, h_7⟩ | ⟨hw, h_8, h_9⟩ | ⟨hw, h_10, h_11⟩
    · subst hw
      refine lv_if_ne (tgt := 19) hx hb dX10_rounds_14 (by decide) (fun h => (h (by decide)).elim) (fun _ => ?_)
      refine lv_iconst (v := (-1)) hx hb dX10_rounds_17 (by decide) ?_
      refine W.widen (k := 0) (n := 0) (Nat.le_of_ble_eq_true rfl) (Nat.le_of_ble_eq_true rfl) ?_
      exact W.iret (v := (-1)) hx hb hr (fun t ht hW => ⟨⟨(-1), (), rfl, (by first | decide | exact (if_pos (by have kh_7 := lt_i h_7; simp only [xi_0] at kh_7; omega)).symm | exact (if_neg (by have kh_7 := lt_i h_7; simp only [xi_0] at kh_7; omega)).symm), trivial⟩, hS.F ht⟩) hS.2.2 dX10_rounds_18
    · subst hw
      refine lv_if_ne (tgt := 19) hx hb dX10_rounds_14 (by decide) (fun h => (h (by decide)).elim) (fun _ => ?_)
      refine lv_iconst (v := (-1)) hx hb dX10_rounds_17 (by decide) ?_
      refine W.widen (k := 0) (n := 0) (Nat.le_of_ble_eq_true rfl) (Nat.le_of_ble_eq_true rfl) ?_
      exact W.iret (v := (-1)) hx hb hr (fun t ht hW => ⟨⟨(-1), (), rfl, (by first | decide | exact (if_pos (by have kh_8 := nlt_i h_8; have kh_9 := lt_i h_9; simp only [xi_0, xi_1] at kh_8 kh_9; omega)).symm | exact (if_neg (by have kh_8 := nlt_i h_8; have kh_9 := lt_i h_9; simp only [xi_0, xi_1] at kh_8 kh_9; omega)).symm), trivial⟩, hS.F ht⟩) hS.2.2 dX10_rounds_18
    · subst hw
      refine lv_if_ne (tgt := 19) hx hb dX10_rounds_14 (by decide) (fun _ => ?_) (fun h => absurd h (by decide))
      refine lv_aload_n hx hb dX10_rounds_19 rfl (lv_at hl 0 rfl) ?_
      refine lv_iload_n hx hb dX10_rounds_20 rfl (lv_at hl 1 rfl) ?_
      have hPc := hP.sub (ws' := [(a1, .inl (k0, 256, .inl f0)), (a2, .inl (k1, 256, .inl f1)), (a3, .inl (k2, 256, .inl f2)), (a14, .inl (k4, 2, .inl (fun _ => 0))), (a0, .inr (10, [.ref a5, .ref a6, .int 0, .int 0, .int 0, .int (-1), .int 0, .int 0, .int 0, .int 0, .long 0, .ref a7, .ref a8, .ref a9, .ref a10, .ref a11, .ref a12, .ref a4, .ref a13, .ref a14, .ref a15, .ref a16, .ref a17, .ref a18, .ref a19, .ref a20, .ref a21, .ref a22, .ref a23, .ref a24, .ref a25, .ref a26, .ref a27, .ref a28, .ref a29, .ref a30, .ref a31, .ref a32, .ref a33, .ref a34, .ref a35, .ref a36, .int 0, .int 0, .int 0, .int 0, .int 0, .ref a37, .ref a38, .ref a39, .ref a40, .ref a41, .ref a42, .ref a43, .ref a44, .ref a45, .ref a46, .ref a47, .int 0, .int 0, .ref a48, .ref a1, .ref a2, .ref a3, .ref a49, .ref a50, .ref a51]))]) [0, 1, 2, 3, 5] rfl
      have hDc := hD.sub (ws' := [(a1, .inl (k0, 256, .inl f0)), (a2, .inl (k1, 256, .inl f1)), (a3, .inl (k2, 256, .inl f2)), (a14, .inl (k4, 2, .inl (fun _ => 0))), (a0, .inr (10, [.ref a5, .ref a6, .int 0, .int 0, .int 0, .int (-1), .int 0, .int 0, .int 0, .int 0, .long 0, .ref a7, .ref a8, .ref a9, .ref a10, .ref a11, .ref a12, .ref a4, .ref a13, .ref a14, .ref a15, .ref a16, .ref a17, .ref a18, .ref a19, .ref a20, .ref a21, .ref a22, .ref a23, .ref a24, .ref a25, .ref a26, .ref a27, .ref a28, .ref a29, .ref a30, .ref a31, .ref a32, .ref a33, .ref a34, .ref a35, .ref a36, .int 0, .int 0, .int 0, .int 0, .int 0, .ref a37, .ref a38, .ref a39, .ref a40, .ref a41, .ref a42, .ref a43, .ref a44, .ref a45, .ref a46, .ref a47, .int 0, .int 0, .ref a48, .ref a1, .ref a2, .ref a3, .ref a49, .ref a50, .ref a51]))]) [0, 1, 2, 3, 5] (by decide) rfl
      have hKc := hK.sub (tys' := [(k0, .int), (k1, .int), (k2, .int), (k4, .int)]) [0, 1, 2, 3] rfl
      have hFc := va_free (wc := [(a1, .inl (k0, 256, .inl f0)), (a2, .inl (k1, 256, .inl f1)), (a3, .inl (k2, 256, .inl f2)), (a14, .inl (k4, 2, .inl (fun _ => 0))), (a0, .inr (10, [.ref a5, .ref a6, .int 0, .int 0, .int 0, .int (-1), .int 0, .int 0, .int 0, .int 0, .long 0, .ref a7, .ref a8, .ref a9, .ref a10, .ref a11, .ref a12, .ref a4, .ref a13, .ref a14, .ref a15, .ref a16, .ref a17, .ref a18, .ref a19, .ref a20, .ref a21, .ref a22, .ref a23, .ref a24, .ref a25, .ref a26, .ref a27, .ref a28, .ref a29, .ref a30, .ref a31, .ref a32, .ref a33, .ref a34, .ref a35, .ref a36, .int 0, .int 0, .int 0, .int 0, .int 0, .ref a37, .ref a38, .ref a39, .ref a40, .ref a41, .ref a42, .ref a43, .ref a44, .ref a45, .ref a46, .ref a47, .int 0, .int 0, .ref a48, .ref a1, .ref a2, .ref a3, .ref a49, .ref a50, .ref a51]))]) hD hS hA [0, 1, 2, 3, 5] rfl
      refine va_callv (va_runV (As := [.int 0]) (rest := []) ⟨hx, hb, hml, hown, hts⟩ (zX10_layRounds l dC dI adK adV H.size a0 a1 k0 f0 a2 k1 f1 a3 k2 f2 a14 k4 a5 a6 a7 a8 a9 a10 a11 a12 a4 a13 a15 a16 a17 a18 a19 a20 a21 a22 a23 a24 a25 a26 a27 a28 a29 a30 a31 a32 a33 a34 a35 a36 a37 a38 a39 a40 a41 a42 a43 a44 a45 a46 a47 a48 a49 a50 a51) (cwV 1 hts (tb_V mw_1678 mw_1680 mw_95 mw_115 mw_1681) rfl rfl rfl (by decide +kernel) ⟨Nat.le_of_ble_eq_true rfl, Nat.le_of_ble_eq_true rfl⟩) ⟨XB, va_recv hKc hPc (ci := 10) (q0 := 4) rfl rfl, XQ (av := [.ref a0, .int 0]) hPc hKc hDc hC hS hFc⟩ rfl rfl hl.1 rfl (lv_room (Nat.le_of_ble_eq_true rfl)) dX10_rounds_21 ⟨Nat.le_of_ble_eq_true rfl, Nat.le_of_ble_eq_true rfl⟩) hS (fun q _ h => hFc q h) hFc (fun u_9 t H1 locs ht hvm hw hB hz1 hk1 hS => ?_)
      try dsimp only at hw
      obtain ⟨hP1, hK1, hD1⟩ := hB
      rw [ht] at hP1
      have hK1 := va_K.moved hvm.symm hK1
      obtain ⟨hP, hD⟩ := va_join (wr := [(a4, .inl (k3, 2, .inl (fun _ => 0)))]) (w1 := [(a1, .inl (k0, 256, .inl (upd f0 0 0))), (a2, .inl (k1, 256, .inl (upd f1 0 (-1)))), (a3, .inl (k2, 256, .inl (upd f2 0 0))), (a14, .inl (k4, 2, .inl (fun _ => 0))), (a0, .inr (10, [.ref a5, .ref a6, .int 0, .int 0, .int 0, .int (-1), .int 0, .int 0, .int 0, .int 0, .long 0, .ref a7, .ref a8, .ref a9, .ref a10, .ref a11, .ref a12, .ref a4, .ref a13, .ref a14, .ref a15, .ref a16, .ref a17, .ref a18, .ref a19, .ref a20, .ref a21, .ref a22, .ref a23, .ref a24, .ref a25, .ref a26, .ref a27, .ref a28, .ref a29, .ref a30, .ref a31, .ref a32, .ref a33, .ref a34, .ref a35, .ref a36, .int 0, .int 0, .int 0, .int 0, .int 0, .ref a37, .ref a38, .ref a39, .ref a40, .ref a41, .ref a42, .ref a43, .ref a44, .ref a45, .ref a46, .ref a47, .int 0, .int 0, .ref a48, .ref a1, .ref a2, .ref a3, .ref a49, .ref a50, .ref a51]))]) hP hD [0, 1, 2, 3, 5] [4] rfl rfl (by decide) (by decide) hk1 hFc hP1 hD1
      have hK := (hK.sub (tys' := [(k3, .int)]) [4] rfl).app hK1
      generalize H1 = H at hP hS ⊢
      have hP : va_P (dC, dI) CL [(a4, .inl (k3, 2, .inl (fun _ => 0))), (a1, .inl (k0, 256, .inl (upd f0 0 0))), (a2, .inl (k1, 256, .inl (upd f1 0 (-1)))), (a3, .inl (k2, 256, .inl (upd f2 0 0))), (a14, .inl (k4, 2, .inl (fun _ => 0))), (a0, .inr (10, [.ref a5, .ref a6, .int 0, .int 0, .int 0, .int (-1), .int 0, .int 0, .int 0, .int 0, .long 0, .ref a7, .ref a8, .ref a9, .ref a10, .ref a11, .ref a12, .ref a4, .ref a13, .ref a14, .ref a15, .ref a16, .ref a17, .ref a18, .ref a19, .ref a20, .ref a21, .ref a22, .ref a23, .ref a24, .ref a25, .ref a26, .ref a27, .ref a28, .ref a29, .ref a30, .ref a31, .ref a32, .ref a33, .ref a34, .ref a35, .ref a36, .int 0, .int 0, .int 0, .int 0, .int 0, .ref a37, .ref a38, .ref a39, .ref a40, .ref a41, .ref a42, .ref a43, .ref a44, .ref a45, .ref a46, .ref a47, .int 0, .int 0, .ref a48, .ref a1, .ref a2, .ref a3, .ref a49, .ref a50, .ref a51]))] H := hP
      have hD : va_D A [(a4, .inl (k3, 2, .inl (fun _ => 0))), (a1, .inl (k0, 256, .inl (upd f0 0 0))), (a2, .inl (k1, 256, .inl (upd f1 0 (-1)))), (a3, .inl (k2, 256, .inl (upd f2 0 0))), (a14, .inl (k4, 2, .inl (fun _ => 0))), (a0, .inr (10, [.ref a5, .ref a6, .int 0, .int 0, .int 0, .int (-1), .int 0, .int 0, .int 0, .int 0, .long 0, .ref a7, .ref a8, .ref a9, .ref a10, .ref a11, .ref a12, .ref a4, .ref a13, .ref a14, .ref a15, .ref a16, .ref a17, .ref a18, .ref a19, .ref a20, .ref a21, .ref a22, .ref a23, .ref a24, .ref a25, .ref a26, .ref a27, .ref a28, .ref a29, .ref a30, .ref a31, .ref a32, .ref a33, .ref a34, .ref a35, .ref a36, .int 0, .int 0, .int 0, .int 0, .int 0, .ref a37, .ref a38, .ref a39, .ref a40, .ref a41, .ref a42, .ref a43, .ref a44, .ref a45, .ref a46, .ref a47, .int 0, .int 0, .ref a48, .ref a1, .ref a2, .ref a3, .ref a49, .ref a50, .ref a51]))] := hD
      have hK : va_K (dC, dI) CL [(k3, .int), (k0, .int), (k1, .int), (k2, .int), (k4, .int)] s := hK
      refine lv_iload_n hx hb dX10_rounds_24 rfl (lv_at hl 2 rfl) ?_
      refine lv_if_ne (tgt := 37) hx hb dX10_rounds_25 (by decide) (fun c_13 => ?_) (fun c_13 => ?_)
      · obtain rfl : p1 = 1 := Int32.toInt_inj.mp (by rw [xi_1]; have kh_10 := nlt_i h_10; have kh_11 := nlt_i h_11; have kc_13 := ne_i c_13; simp only [xi_0, xi_1] at kh_10 kh_11 kc_13; omega)
        refine lv_aload_n hx hb dX10_rounds_37 rfl (lv_at hl 0 rfl) ?_
        refine va_get (D := (dC, dI)) (ci := 10) (v := .ref a2) (C := RX10) (T := TX10) (N := 67) hx hb hts iwX10 hown hK hP 5 rfl rfl 62 (by decide) (hts _ mw_1238) (fun _ h9 => h9) rfl dX10_rounds_38 ?_
        refine lv_iload_n hx hb dX10_rounds_41 rfl (lv_at hl 1 rfl) ?_
        refine x_iald (k := 0) (v := (-1)) hx hb hK hP 2 2 rfl rfl (by decide) (by decide) (by decide) rfl dX10_rounds_42 ?_
        refine W.widen (k := 0) (n := 0) (Nat.le_of_ble_eq_true rfl) (Nat.le_of_ble_eq_true rfl) ?_
        exact W.iret (v := (-1)) hx hb hr (fun t ht hW => ⟨⟨(-1), (), rfl, (by first | decide | exact (if_pos (by omega)).symm | exact (if_neg (by omega)).symm), trivial⟩, hS.F ht⟩) hS.2.2 dX10_rounds_43
      · obtain rfl : p1 = 0 := Int32.toInt_inj.mp (by rw [xi_0]; have kh_10 := nlt_i h_10; have kh_11 := nlt_i h_11; have kc_13 := eq_i c_13; simp only [xi_0, xi_1] at kh_10 kh_11 kc_13; omega)
        refine lv_aload_n hx hb dX10_rounds_28 rfl (lv_at hl 0 rfl) ?_
        refine va_get (D := (dC, dI)) (ci := 10) (v := .ref a1) (C := RX10) (T := TX10) (N := 67) hx hb hts iwX10 hown hK hP 5 rfl rfl 61 (by decide) (hts _ mw_1237) (fun _ h9 => h9) rfl dX10_rounds_29 ?_
        refine lv_iload_n hx hb dX10_rounds_32 rfl (lv_at hl 1 rfl) ?_
        refine x_iald (k := 0) (v := 0) hx hb hK hP 1 1 rfl rfl (by decide) (by decide) (by decide) rfl dX10_rounds_33 ?_
        refine lv_goto (tgt := 43) hx hb dX10_rounds_34 (by decide) ?_
        refine W.widen (k := 0) (n := 0) (Nat.le_of_ble_eq_true rfl) (Nat.le_of_ble_eq_true rfl) ?_
        exact W.iret (v := 0) hx hb hr (fun t ht hW => ⟨⟨0, (), rfl, (by first | decide | exact (if_pos (by omega)).symm | exact (if_neg (by omega)).symm), trivial⟩, hS.F ht⟩) hS.2.2 dX10_rounds_43
set_option maxHeartbeats 4000000 in
set_option maxRecDepth 100000 in
theorem zX10_isIn_5 (l : Launch) (dC : Nat → ClassId) (dI : Nat → Nat → Nat) (adK adV : Nat → Nat) (sz : Nat) (p0 : Int32) : Met l yX10_isIn (Cond.code yX10_isIn cX10_isIn 3 (some .boolean) :: TB) ({ frames := 1, cells := 0, slots := 0, locals := 100 }) (XP (dC, dI) adK adV [.int p0, .int 0, .int 2] sz [] []) (va_Qi (fun (r : Int32) (_ : Unit) => (r = 0 ∧ p0 < 0) ∨ (r = 0 ∧ ¬ p0 < 0 ∧ 2 < p0) ∨ (r = 1 ∧ ¬ p0 < 0 ∧ ¬ 2 < p0)) (fun _ t => va_P (dC, dI) CL [] t.heap ∧ va_K (dC, dI) CL [] t ∧ va_D (va_A [] sz) []) (va_A [] sz)) 0 0 (va_A [] sz) := by
  refine Met.ofW (cc := cX10_isIn) (maxL := 3) (ret := (some .boolean)) (by decide) rfl ?_
  intro p e s m args below meth c s₁ B hml hv
  obtain ⟨rfl, hsz, hP, hK, hD0, hC⟩ := hv
  have hx := B.exec
  have hb := B.bytes
  have hr := B.returns
  have hts0 := atoms_spec (ws := Cond.code yX10_isIn cX10_isIn 3 (some .boolean) :: TB) B.pre
  have hts : ∀ w ∈ TB, w.before _ s = true := fun w h => hts0 w (List.mem_cons_of_mem _ h)
  have hown : s.vm.findClass RX10 = some m.cls := findClass_of_methodNamed B.named
  have hlocks := B.notSynchronized
  subst hsz
  have hD := hD0.self (sz := s.heap.size)
  generalize hAe : va_A [] s.heap.size = A at hD hC ⊢
  have hA : ∀ q : Nat, s.heap.size ≤ q → A q := fun q h => by rw [← hAe]; exact Or.inr h
  have hl := lv_entry ([.int p0, .int 0, .int 2]) (n := 3) (Nat.le_of_ble_eq_true rfl)
  rw [lg_entry_eq]
  generalize (lg_sl ([.int p0, .int 0, .int 2]) ++ List.replicate (3 - (lg_sl ([.int p0, .int 0, .int 2])).length) Slot.unset).toArray = ls at hl ⊢
  have hl : lv_has ls 3 [(0, .int p0), (1, .int 0), (2, .int 2)] := hl
  have hP : va_P (dC, dI) CL [] s.heap := hP
  obtain ⟨H, hH⟩ : ∃ z, z = s.heap := ⟨_, rfl⟩
  rw [← hH] at hP ⊢
  have hS : va_S A s.heap H [] := by rw [hH]; exact va_S.rf
  refine lv_iload_n hx hb dX10_isIn_0 rfl (lv_at hl 0 rfl) ?_
  refine lv_iload_n hx hb dX10_isIn_1 rfl (lv_at hl 1 rfl) ?_
  refine lv_icmp_lt (tgt := 14) hx hb dX10_isIn_2 (by decide) (fun c_1 => ?_) (fun c_1 => ?_)
  · refine lv_iconst (v := 0) hx hb dX10_isIn_14 (by decide) ?_
    refine W.widen (k := 0) (n := 0) (Nat.le_of_ble_eq_true rfl) (Nat.le_of_ble_eq_true rfl) ?_
    have hP9 := hP.sub (ws' := []) [] rfl
    have hD9 := hD.sub (ws' := []) [] (by decide) rfl
    have hK9 := hK.sub (tys' := []) [] rfl
    exact W.zret (v := 0) hx hb hr (by decide) (fun t ht hW => ⟨⟨0, (), rfl, (Or.inl ⟨rfl, c_1⟩), by rw [ht]; exact hP9, va_K.moved hW.alike hK9, hD9⟩, hS.F ht⟩) hS.2.2 dX10_isIn_15
  · refine lv_iload_n hx hb dX10_isIn_5 rfl (lv_at hl 0 rfl) ?_
    refine lv_iload_n hx hb dX10_isIn_6 rfl (lv_at hl 2 rfl) ?_
    refine lv_icmp_gt (tgt := 14) hx hb dX10_isIn_7 (by decide) (fun c_2 => ?_) (fun c_2 => ?_)
    · refine lv_iconst (v := 0) hx hb dX10_isIn_14 (by decide) ?_
      refine W.widen (k := 0) (n := 0) (Nat.le_of_ble_eq_true rfl) (Nat.le_of_ble_eq_true rfl) ?_
      have hP9 := hP.sub (ws' := []) [] rfl
      have hD9 := hD.sub (ws' := []) [] (by decide) rfl
      have hK9 := hK.sub (tys' := []) [] rfl
      exact W.zret (v := 0) hx hb hr (by decide) (fun t ht hW => ⟨⟨0, (), rfl, (Or.inr (Or.inl ⟨rfl, c_1, c_2⟩)), by rw [ht]; exact hP9, va_K.moved hW.alike hK9, hD9⟩, hS.F ht⟩) hS.2.2 dX10_isIn_15
    · refine lv_iconst (v := 1) hx hb dX10_isIn_10 (by decide) ?_
      refine lv_goto (tgt := 15) hx hb dX10_isIn_11 (by decide) ?_
      refine W.widen (k := 0) (n := 0) (Nat.le_of_ble_eq_true rfl) (Nat.le_of_ble_eq_true rfl) ?_
      have hP9 := hP.sub (ws' := []) [] rfl
      have hD9 := hD.sub (ws' := []) [] (by decide) rfl
      have hK9 := hK.sub (tys' := []) [] rfl
      exact W.zret (v := 1) hx hb hr (by decide) (fun t ht hW => ⟨⟨1, (), rfl, (Or.inr (Or.inr (⟨rfl, c_1, c_2⟩))), by rw [ht]; exact hP9, va_K.moved hW.alike hK9, hD9⟩, hS.F ht⟩) hS.2.2 dX10_isIn_15
set_option maxHeartbeats 4000000 in
set_option maxRecDepth 100000 in
theorem zX10_image (l : Launch) (dC : Nat → ClassId) (dI : Nat → Nat → Nat) (adK adV : Nat → Nat) (sz : Nat) (a0 : Nat) (p0 : Int32) (a1 : Nat) (k0 : ClassId) (a2 : Nat) (k1 : ClassId) (a3 : Nat) (a4 : Nat) (a5 : Nat) (a6 : Nat) (a7 : Nat) (a8 : Nat) (a9 : Nat) (a10 : Nat) (a11 : Nat) (a12 : Nat) (a13 : Nat) (a14 : Nat) (a15 : Nat) (a16 : Nat) (a17 : Nat) (a18 : Nat) (a19 : Nat) (a20 : Nat) (a21 : Nat) (a22 : Nat) (a23 : Nat) (a24 : Nat) (a25 : Nat) (a26 : Nat) (a27 : Nat) (a28 : Nat) (a29 : Nat) (a30 : Nat) (a31 : Nat) (a32 : Nat) (a33 : Nat) (a34 : Nat) (a35 : Nat) (a36 : Nat) (a37 : Nat) (a38 : Nat) (a39 : Nat) (a40 : Nat) (a41 : Nat) (a42 : Nat) (a43 : Nat) (a44 : Nat) (a45 : Nat) (a46 : Nat) (a47 : Nat) (a48 : Nat) (a49 : Nat) (a50 : Nat) (a51 : Nat) : Met l yX10_image (Cond.code yX10_image cX10_image 4 (some .int) :: TB) ({ frames := 2, cells := 0, slots := 0, locals := 122 }) (XP (dC, dI) adK adV [.ref a0, .int p0] sz [(a1, .inl (k0, 3, .inl (upd (upd (upd (fun _ => 0) 0 (-1)) 1 (-1)) 2 (-1)))), (a2, .inl (k1, 3, .inl (fun _ => 0))), (a0, .inr (10, [.ref a3, .ref a4, .int 0, .int 0, .int 0, .int (-1), .int 0, .int 0, .int 0, .int 0, .long 0, .ref a5, .ref a6, .ref a7, .ref a8, .ref a9, .ref a10, .ref a11, .ref a12, .ref a13, .ref a14, .ref a15, .ref a16, .ref a17, .ref a18, .ref a19, .ref a20, .ref a21, .ref a22, .ref a23, .ref a24, .ref a25, .ref a26, .ref a27, .ref a28, .ref a29, .ref a30, .ref a31, .ref a32, .ref a33, .ref a34, .ref a35, .int 0, .int 0, .int 0, .int 0, .int 0, .ref a36, .ref a37, .ref a38, .ref a39, .ref a40, .ref a41, .ref a42, .ref a43, .ref a44, .ref a45, .ref a46, .int 0, .int 0, .ref a47, .ref a48, .ref a49, .ref a50, .ref a1, .ref a2, .ref a51]))] [(k0, .int), (k1, .int)]) (va_Qi (fun (r : Int32) (_ : Unit) => r = res_image p0) (fun _ _ => True) (va_A [(a1, .inl (k0, 3, .inl (upd (upd (upd (fun _ => 0) 0 (-1)) 1 (-1)) 2 (-1)))), (a2, .inl (k1, 3, .inl (fun _ => 0))), (a0, .inr (10, [.ref a3, .ref a4, .int 0, .int 0, .int 0, .int (-1), .int 0, .int 0, .int 0, .int 0, .long 0, .ref a5, .ref a6, .ref a7, .ref a8, .ref a9, .ref a10, .ref a11, .ref a12, .ref a13, .ref a14, .ref a15, .ref a16, .ref a17, .ref a18, .ref a19, .ref a20, .ref a21, .ref a22, .ref a23, .ref a24, .ref a25, .ref a26, .ref a27, .ref a28, .ref a29, .ref a30, .ref a31, .ref a32, .ref a33, .ref a34, .ref a35, .int 0, .int 0, .int 0, .int 0, .int 0, .ref a36, .ref a37, .ref a38, .ref a39, .ref a40, .ref a41, .ref a42, .ref a43, .ref a44, .ref a45, .ref a46, .int 0, .int 0, .ref a47, .ref a48, .ref a49, .ref a50, .ref a1, .ref a2, .ref a51]))] sz)) 0 0 (va_A [(a1, .inl (k0, 3, .inl (upd (upd (upd (fun _ => 0) 0 (-1)) 1 (-1)) 2 (-1)))), (a2, .inl (k1, 3, .inl (fun _ => 0))), (a0, .inr (10, [.ref a3, .ref a4, .int 0, .int 0, .int 0, .int (-1), .int 0, .int 0, .int 0, .int 0, .long 0, .ref a5, .ref a6, .ref a7, .ref a8, .ref a9, .ref a10, .ref a11, .ref a12, .ref a13, .ref a14, .ref a15, .ref a16, .ref a17, .ref a18, .ref a19, .ref a20, .ref a21, .ref a22, .ref a23, .ref a24, .ref a25, .ref a26, .ref a27, .ref a28, .ref a29, .ref a30, .ref a31, .ref a32, .ref a33, .ref a34, .ref a35, .int 0, .int 0, .int 0, .int 0, .int 0, .ref a36, .ref a37, .ref a38, .ref a39, .ref a40, .ref a41, .ref a42, .ref a43, .ref a44, .ref a45, .ref a46, .int 0, .int 0, .ref a47, .ref a48, .ref a49, .ref a50, .ref a1, .ref a2, .ref a51]))] sz) := by
  refine Met.ofW (cc := cX10_image) (maxL := 4) (ret := (some .int)) (by decide) rfl ?_
  intro p e s m args below meth c s₁ B hml hv
  obtain ⟨rfl, hsz, hP, hK, hD0, hC⟩ := hv
  have hx := B.exec
  have hb := B.bytes
  have hr := B.returns
  have hts0 := atoms_spec (ws := Cond.code yX10_image cX10_image 4 (some .int) :: TB) B.pre
  have hts : ∀ w ∈ TB, w.before _ s = true := fun w h => hts0 w (List.mem_cons_of_mem _ h)
  have hown : s.vm.findClass RX10 = some m.cls := findClass_of_methodNamed B.named
  have hlocks := B.notSynchronized
  subst hsz
  have hD := hD0.self (sz := s.heap.size)
  generalize hAe : va_A [(a1, .inl (k0, 3, .inl (upd (upd (upd (fun _ => 0) 0 (-1)) 1 (-1)) 2 (-1)))), (a2, .inl (k1, 3, .inl (fun _ => 0))), (a0, .inr (10, [.ref a3, .ref a4, .int 0, .int 0, .int 0, .int (-1), .int 0, .int 0, .int 0, .int 0, .long 0, .ref a5, .ref a6, .ref a7, .ref a8, .ref a9, .ref a10, .ref a11, .ref a12, .ref a13, .ref a14, .ref a15, .ref a16, .ref a17, .ref a18, .ref a19, .ref a20, .ref a21, .ref a22, .ref a23, .ref a24, .ref a25, .ref a26, .ref a27, .ref a28, .ref a29, .ref a30, .ref a31, .ref a32, .ref a33, .ref a34, .ref a35, .int 0, .int 0, .int 0, .int 0, .int 0, .ref a36, .ref a37, .ref a38, .ref a39, .ref a40, .ref a41, .ref a42, .ref a43, .ref a44, .ref a45, .ref a46, .int 0, .int 0, .ref a47, .ref a48, .ref a49, .ref a50, .ref a1, .ref a2, .ref a51]))] s.heap.size = A at hD hC ⊢
  have hA : ∀ q : Nat, s.heap.size ≤ q → A q := fun q h => by rw [← hAe]; exact Or.inr h
  have hl := lv_entry ([.ref a0, .int p0]) (n := 4) (Nat.le_of_ble_eq_true rfl)
  rw [lg_entry_eq]
  generalize (lg_sl ([.ref a0, .int p0]) ++ List.replicate (4 - (lg_sl ([.ref a0, .int p0])).length) Slot.unset).toArray = ls at hl ⊢
  have hl : lv_has ls 4 [(0, .ref a0), (1, .int p0)] := hl
  have hP : va_P (dC, dI) CL [(a1, .inl (k0, 3, .inl (upd (upd (upd (fun _ => 0) 0 (-1)) 1 (-1)) 2 (-1)))), (a2, .inl (k1, 3, .inl (fun _ => 0))), (a0, .inr (10, [.ref a3, .ref a4, .int 0, .int 0, .int 0, .int (-1), .int 0, .int 0, .int 0, .int 0, .long 0, .ref a5, .ref a6, .ref a7, .ref a8, .ref a9, .ref a10, .ref a11, .ref a12, .ref a13, .ref a14, .ref a15, .ref a16, .ref a17, .ref a18, .ref a19, .ref a20, .ref a21, .ref a22, .ref a23, .ref a24, .ref a25, .ref a26, .ref a27, .ref a28, .ref a29, .ref a30, .ref a31, .ref a32, .ref a33, .ref a34, .ref a35, .int 0, .int 0, .int 0, .int 0, .int 0, .ref a36, .ref a37, .ref a38, .ref a39, .ref a40, .ref a41, .ref a42, .ref a43, .ref a44, .ref a45, .ref a46, .int 0, .int 0, .ref a47, .ref a48, .ref a49, .ref a50, .ref a1, .ref a2, .ref a51]))] s.heap := hP
  obtain ⟨H, hH⟩ : ∃ z, z = s.heap := ⟨_, rfl⟩
  rw [← hH] at hP ⊢
  have hS : va_S A s.heap H [] := by rw [hH]; exact va_S.rf
  refine lv_iload_n hx hb dX10_image_0 rfl (lv_at hl 1 rfl) ?_
  refine lv_iconst (v := 0) hx hb dX10_image_1 (by decide) ?_
  refine lv_iconst (v := 2) hx hb dX10_image_2 (by decide) ?_
  have hPc := hP.sub (ws' := []) [] rfl
  have hDc := hD.sub (ws' := []) [] (by decide) rfl
  have hKc := hK.sub (tys' := []) [] rfl
  have hFc := va_free (wc := []) hD hS hA [] rfl
  refine va_calli (va_runS (As := [.int p0, .int 0, .int 2]) (rest := []) ⟨hx, hb, hml, hown, hts⟩ (zX10_isIn_5 l dC dI adK adV H.size p0) (va_cwS 3 hts (tb_S mw_1123 mw_1124 mw_115 mw_1125) rfl rfl rfl (by decide +kernel) ⟨Nat.le_of_ble_eq_true rfl, Nat.le_of_ble_eq_true rfl⟩) ⟨XB, XQ (av := [.int p0, .int 0, .int 2]) hPc hKc hDc hC hS hFc⟩ rfl rfl hl.1 rfl (lv_room (Nat.le_of_ble_eq_true rfl)) dX10_image_3 ⟨Nat.le_of_ble_eq_true rfl, Nat.le_of_ble_eq_true rfl⟩) hS (fun q _ h => hFc q h) hFc (fun r_1 u_9 t H1 locs ht hvm hw hB hz1 hk1 hS => ?_)
  try dsimp only at hw
  obtain ⟨hP1, hK1, hD1⟩ := hB
  rw [ht] at hP1
  have hK1 := va_K.moved hvm.symm hK1
  obtain ⟨hP, hD⟩ := va_join (wr := [(a1, .inl (k0, 3, .inl (upd (upd (upd (fun _ => 0) 0 (-1)) 1 (-1)) 2 (-1)))), (a2, .inl (k1, 3, .inl (fun _ => 0))), (a0, .inr (10, [.ref a3, .ref a4, .int 0, .int 0, .int 0, .int (-1), .int 0, .int 0, .int 0, .int 0, .long 0, .ref a5, .ref a6, .ref a7, .ref a8, .ref a9, .ref a10, .ref a11, .ref a12, .ref a13, .ref a14, .ref a15, .ref a16, .ref a17, .ref a18, .ref a19, .ref a20, .ref a21, .ref a22, .ref a23, .ref a24, .ref a25, .ref a26, .ref a27, .ref a28, .ref a29, .ref a30, .ref a31, .ref a32, .ref a33, .ref a34, .ref a35, .int 0, .int 0, .int 0, .int 0, .int 0, .ref a36, .ref a37, .ref a38, .ref a39, .ref a40, .ref a41, .ref a42, .ref a43, .ref a44, .ref a45, .ref a46, .int 0, .int 0, .ref a47, .ref a48, .ref a49, .ref a50, .ref a1, .ref a2, .ref a51]))]) (w1 := []) hP hD [] [0, 1, 2] rfl rfl (by decide) (by decide) hk1 hFc hP1 hD1
  have hK := (hK.sub (tys' := [(k0, .int), (k1, .int)]) [0, 1] rfl).app hK1
  generalize H1 = H at hP hS ⊢
  have hP : va_P (dC, dI) CL [(a1, .inl (k0, 3, .inl (upd (upd (upd (fun _ => 0) 0 (-1)) 1 (-1)) 2 (-1)))), (a2, .inl (k1, 3, .inl (fun _ => 0))), (a0, .inr (10, [.ref a3, .ref a4, .int 0, .int 0, .int 0, .int (-1), .int 0, .int 0, .int 0, .int 0, .long 0, .ref a5, .ref a6, .ref a7, .ref a8, .ref a9, .ref a10, .ref a11, .ref a12, .ref a13, .ref a14, .ref a15, .ref a16, .ref a17, .ref a18, .ref a19, .ref a20, .ref a21, .ref a22, .ref a23, .ref a24, .ref a25, .ref a26, .ref a27, .ref a28, .ref a29, .ref a30, .ref a31, .ref a32, .ref a33, .ref a34, .ref a35, .int 0, .int 0, .int 0, .int 0, .int 0, .ref a36, .ref a37, .ref a38, .ref a39, .ref a40, .ref a41, .ref a42, .ref a43, .ref a44, .ref a45, .ref a46, .int 0, .int 0, .ref a47, .ref a48, .ref a49, .ref a50, .ref a1, .ref a2, .ref a51]))] H := hP
  have hD : va_D A [(a1, .inl (k0, 3, .inl (upd (upd (upd (fun _ => 0) 0 (-1)) 1 (-1)) 2 (-1)))), (a2, .inl (k1, 3, .inl (fun _ => 0))), (a0, .inr (10, [.ref a3, .ref a4, .int 0, .int 0, .int 0, .int (-1), .int 0, .int 0, .int 0, .int 0, .long 0, .ref a5, .ref a6, .ref a7, .ref a8, .ref a9, .ref a10, .ref a11, .ref a12, .ref a13, .ref a14, .ref a15, .ref a16, .ref a17, .ref a18, .ref a19, .ref a20, .ref a21, .ref a22, .ref a23, .ref a24, .ref a25, .ref a26, .ref a27, .ref a28, .ref a29, .ref a30, .ref a31, .ref a32, .ref a33, .ref a34, .ref a35, .int 0, .int 0, .int 0, .int 0, .int 0, .ref a36, .ref a37, .ref a38, .ref a39, .ref a40, .ref a41, .ref a42, .ref a43, .ref a44, .ref a45, .ref a46, .int 0, .int 0, .ref a47, .ref a48, .ref a49, .ref a50, .ref a1, .ref a2, .ref a51]))] := hD
  have hK : va_K (dC, dI) CL [(k0, .int), (k1, .int)] s := hK
  rcases hw with ⟨hw, h_2⟩ | ⟨hw, h_3, h_4⟩ | ⟨hw, h_5, h_6⟩
  · subst hw
    refine lv_if_ne (tgt := 11) hx hb dX10_image_6 (by decide) (fun h => (h (by decide)).elim) (fun _ => ?_)
    refine lv_iconst (v := (-1)) hx hb dX10_image_9 (by decide) ?_
    refine W.widen (k := 0) (n := 0) (Nat.le_of_ble_eq_true rfl) (Nat.le_of_ble_eq_true rfl) ?_
    exact W.iret (v := (-1)) hx hb hr (fun t ht hW => ⟨⟨(-1), (), rfl, (by first | decide | exact (if_pos (by have kh_2 := lt_i h_2; simp only [xi_0] at kh_2; omega)).symm | exact (if_neg (by have kh_2 := lt_i h_2; simp only [xi_0] at kh_2; omega)).symm), trivial⟩, hS.F ht⟩) hS.2.2 dX10_image_10
  · subst hw
    refine lv_if_ne (tgt := 11) hx hb dX10_image_6 (by decide) (fun h => (h (by decide)).elim) (fun _ => ?_)
    refine lv_iconst (v := (-1)) hx hb dX10_image_9 (by decide) ?_
    refine W.widen (k := 0) (n := 0) (Nat.le_of_ble_eq_true rfl) (Nat.le_of_ble_eq_true rfl) ?_
    exact W.iret (v := (-1)) hx hb hr (fun t ht hW => ⟨⟨(-1), (), rfl, (by first | decide | exact (if_pos (by have kh_3 := nlt_i h_3; have kh_4 := lt_i h_4; simp only [xi_0, xi_2] at kh_3 kh_4; omega)).symm | exact (if_neg (by have kh_3 := nlt_i h_3; have kh_4 := lt_i h_4; simp only [xi_0, xi_2] at kh_3 kh_4; omega)).symm), trivial⟩, hS.F ht⟩) hS.2.2 dX10_image_10
  · subst hw
    refine lv_if_ne (tgt := 11) hx hb dX10_image_6 (by decide) (fun _ => ?_) (fun h => absurd h (by decide))
    refine lv_aload_n hx hb dX10_image_11 rfl (lv_at hl 0 rfl) ?_
    refine va_get (D := (dC, dI)) (ci := 10) (v := .ref a1) (C := RX10) (T := TX10) (N := 67) hx hb hts iwX10 hown hK hP 2 rfl rfl 64 (by decide) (hts _ mw_1240) (fun _ h9 => h9) rfl dX10_image_12 ?_
    refine lv_iload_n hx hb dX10_image_15 rfl (lv_at hl 1 rfl) ?_
    refine lv_aload_n hx hb dX10_image_16 rfl (lv_at hl 0 rfl) ?_
    refine va_get (D := (dC, dI)) (ci := 10) (v := .int 0) (C := RX10) (T := TX10) (N := 67) hx hb hts iwX10 hown hK hP 2 rfl rfl 58 (by decide) (hts _ mw_1234) (fun _ h9 => h9) rfl dX10_image_17 ?_
    by_cases h_7 : p0 = 0
    · subst h_7
      refine x_iast (k := 0) hx hb hK hP hD hS 0 0 rfl rfl (by decide) (by decide) (by decide) dX10_image_20 (upd (upd (upd (upd (fun _ => 0) 0 (-1)) 1 (-1)) 2 (-1)) 0 0) rfl (fun H locs hP hD hS => ?_)
      have hP : va_P (dC, dI) CL [(a1, .inl (k0, 3, .inl (upd (upd (upd (upd (fun _ => 0) 0 (-1)) 1 (-1)) 2 (-1)) 0 0))), (a2, .inl (k1, 3, .inl (fun _ => 0))), (a0, .inr (10, [.ref a3, .ref a4, .int 0, .int 0, .int 0, .int (-1), .int 0, .int 0, .int 0, .int 0, .long 0, .ref a5, .ref a6, .ref a7, .ref a8, .ref a9, .ref a10, .ref a11, .ref a12, .ref a13, .ref a14, .ref a15, .ref a16, .ref a17, .ref a18, .ref a19, .ref a20, .ref a21, .ref a22, .ref a23, .ref a24, .ref a25, .ref a26, .ref a27, .ref a28, .ref a29, .ref a30, .ref a31, .ref a32, .ref a33, .ref a34, .ref a35, .int 0, .int 0, .int 0, .int 0, .int 0, .ref a36, .ref a37, .ref a38, .ref a39, .ref a40, .ref a41, .ref a42, .ref a43, .ref a44, .ref a45, .ref a46, .int 0, .int 0, .ref a47, .ref a48, .ref a49, .ref a50, .ref a1, .ref a2, .ref a51]))] H := hP
      have hD : va_D A [(a1, .inl (k0, 3, .inl (upd (upd (upd (upd (fun _ => 0) 0 (-1)) 1 (-1)) 2 (-1)) 0 0))), (a2, .inl (k1, 3, .inl (fun _ => 0))), (a0, .inr (10, [.ref a3, .ref a4, .int 0, .int 0, .int 0, .int (-1), .int 0, .int 0, .int 0, .int 0, .long 0, .ref a5, .ref a6, .ref a7, .ref a8, .ref a9, .ref a10, .ref a11, .ref a12, .ref a13, .ref a14, .ref a15, .ref a16, .ref a17, .ref a18, .ref a19, .ref a20, .ref a21, .ref a22, .ref a23, .ref a24, .ref a25, .ref a26, .ref a27, .ref a28, .ref a29, .ref a30, .ref a31, .ref a32, .ref a33, .ref a34, .ref a35, .int 0, .int 0, .int 0, .int 0, .int 0, .ref a36, .ref a37, .ref a38, .ref a39, .ref a40, .ref a41, .ref a42, .ref a43, .ref a44, .ref a45, .ref a46, .int 0, .int 0, .ref a47, .ref a48, .ref a49, .ref a50, .ref a1, .ref a2, .ref a51]))] := hD
      refine lv_aload_n hx hb dX10_image_21 rfl (lv_at hl 0 rfl) ?_
      refine va_get (D := (dC, dI)) (ci := 10) (v := .ref a2) (C := RX10) (T := TX10) (N := 67) hx hb hts iwX10 hown hK hP 2 rfl rfl 65 (by decide) (hts _ mw_1241) (fun _ h9 => h9) rfl dX10_image_22 ?_
      refine lv_iload_n hx hb dX10_image_25 rfl (lv_at hl 1 rfl) ?_
      refine lv_aload_n hx hb dX10_image_26 rfl (lv_at hl 0 rfl) ?_
      refine va_get (D := (dC, dI)) (ci := 10) (v := .int 0) (C := RX10) (T := TX10) (N := 67) hx hb hts iwX10 hown hK hP 2 rfl rfl 59 (by decide) (hts _ mw_1235) (fun _ h9 => h9) rfl dX10_image_27 ?_
      refine x_iast (k := 0) hx hb hK hP hD hS 1 1 rfl rfl (by decide) (by decide) (by decide) dX10_image_30 (fun _ => 0) (upc _) (fun H locs hP hD hS => ?_)
      have hP : va_P (dC, dI) CL [(a1, .inl (k0, 3, .inl (upd (upd (upd (upd (fun _ => 0) 0 (-1)) 1 (-1)) 2 (-1)) 0 0))), (a2, .inl (k1, 3, .inl (fun _ => 0))), (a0, .inr (10, [.ref a3, .ref a4, .int 0, .int 0, .int 0, .int (-1), .int 0, .int 0, .int 0, .int 0, .long 0, .ref a5, .ref a6, .ref a7, .ref a8, .ref a9, .ref a10, .ref a11, .ref a12, .ref a13, .ref a14, .ref a15, .ref a16, .ref a17, .ref a18, .ref a19, .ref a20, .ref a21, .ref a22, .ref a23, .ref a24, .ref a25, .ref a26, .ref a27, .ref a28, .ref a29, .ref a30, .ref a31, .ref a32, .ref a33, .ref a34, .ref a35, .int 0, .int 0, .int 0, .int 0, .int 0, .ref a36, .ref a37, .ref a38, .ref a39, .ref a40, .ref a41, .ref a42, .ref a43, .ref a44, .ref a45, .ref a46, .int 0, .int 0, .ref a47, .ref a48, .ref a49, .ref a50, .ref a1, .ref a2, .ref a51]))] H := hP
      have hD : va_D A [(a1, .inl (k0, 3, .inl (upd (upd (upd (upd (fun _ => 0) 0 (-1)) 1 (-1)) 2 (-1)) 0 0))), (a2, .inl (k1, 3, .inl (fun _ => 0))), (a0, .inr (10, [.ref a3, .ref a4, .int 0, .int 0, .int 0, .int (-1), .int 0, .int 0, .int 0, .int 0, .long 0, .ref a5, .ref a6, .ref a7, .ref a8, .ref a9, .ref a10, .ref a11, .ref a12, .ref a13, .ref a14, .ref a15, .ref a16, .ref a17, .ref a18, .ref a19, .ref a20, .ref a21, .ref a22, .ref a23, .ref a24, .ref a25, .ref a26, .ref a27, .ref a28, .ref a29, .ref a30, .ref a31, .ref a32, .ref a33, .ref a34, .ref a35, .int 0, .int 0, .int 0, .int 0, .int 0, .ref a36, .ref a37, .ref a38, .ref a39, .ref a40, .ref a41, .ref a42, .ref a43, .ref a44, .ref a45, .ref a46, .int 0, .int 0, .ref a47, .ref a48, .ref a49, .ref a50, .ref a1, .ref a2, .ref a51]))] := hD
      refine lv_iconst (v := 0) hx hb dX10_image_31 (by decide) ?_
      refine lv_istore_n (lv' := [(2, .int 0), (0, .ref a0), (1, .int 0)]) hx hb dX10_image_32 rfl hl (by decide) rfl (fun ls hl => ?_)
      refine lv_iload_n hx hb dX10_image_33 rfl (lv_at hl 0 rfl) ?_
      refine lv_aload_n hx hb dX10_image_34 rfl (lv_at hl 1 rfl) ?_
      refine va_get (D := (dC, dI)) (ci := 10) (v := .int 0) (C := RX10) (T := TX10) (N := 67) hx hb hts iwX10 hown hK hP 2 rfl rfl 58 (by decide) (hts _ mw_1234) (fun _ h9 => h9) rfl dX10_image_35 ?_
      refine lv_icmp_ge (tgt := 125) hx hb dX10_image_38 (by decide) (fun _ => ?_) (fun h => (h (by decide)).elim)
      refine lv_aload_n hx hb dX10_image_125 rfl (lv_at hl 1 rfl) ?_
      refine va_get (D := (dC, dI)) (ci := 10) (v := .int 0) (C := RX10) (T := TX10) (N := 67) hx hb hts iwX10 hown hK hP 2 rfl rfl 58 (by decide) (hts _ mw_1234) (fun _ h9 => h9) rfl dX10_image_126 ?_
      refine W.widen (k := 0) (n := 0) (Nat.le_of_ble_eq_true rfl) (Nat.le_of_ble_eq_true rfl) ?_
      exact W.iret (v := 0) hx hb hr (fun t ht hW => ⟨⟨0, (), rfl, (by first | decide | exact (if_pos (by omega)).symm | exact (if_neg (by omega)).symm), trivial⟩, hS.F ht⟩) hS.2.2 dX10_image_129
    by_cases h_8 : p0 = 1
    · subst h_8
      refine x_iast (k := 1) hx hb hK hP hD hS 0 0 rfl rfl (by decide) (by decide) (by decide) dX10_image_20 (upd (upd (upd (upd (fun _ => 0) 0 (-1)) 1 (-1)) 2 (-1)) 1 0) rfl (fun H locs hP hD hS => ?_)
      have hP : va_P (dC, dI) CL [(a1, .inl (k0, 3, .inl (upd (upd (upd (upd (fun _ => 0) 0 (-1)) 1 (-1)) 2 (-1)) 1 0))), (a2, .inl (k1, 3, .inl (fun _ => 0))), (a0, .inr (10, [.ref a3, .ref a4, .int 0, .int 0, .int 0, .int (-1), .int 0, .int 0, .int 0, .int 0, .long 0, .ref a5, .ref a6, .ref a7, .ref a8, .ref a9, .ref a10, .ref a11, .ref a12, .ref a13, .ref a14, .ref a15, .ref a16, .ref a17, .ref a18, .ref a19, .ref a20, .ref a21, .ref a22, .ref a23, .ref a24, .ref a25, .ref a26, .ref a27, .ref a28, .ref a29, .ref a30, .ref a31, .ref a32, .ref a33, .ref a34, .ref a35, .int 0, .int 0, .int 0, .int 0, .int 0, .ref a36, .ref a37, .ref a38, .ref a39, .ref a40, .ref a41, .ref a42, .ref a43, .ref a44, .ref a45, .ref a46, .int 0, .int 0, .ref a47, .ref a48, .ref a49, .ref a50, .ref a1, .ref a2, .ref a51]))] H := hP
      have hD : va_D A [(a1, .inl (k0, 3, .inl (upd (upd (upd (upd (fun _ => 0) 0 (-1)) 1 (-1)) 2 (-1)) 1 0))), (a2, .inl (k1, 3, .inl (fun _ => 0))), (a0, .inr (10, [.ref a3, .ref a4, .int 0, .int 0, .int 0, .int (-1), .int 0, .int 0, .int 0, .int 0, .long 0, .ref a5, .ref a6, .ref a7, .ref a8, .ref a9, .ref a10, .ref a11, .ref a12, .ref a13, .ref a14, .ref a15, .ref a16, .ref a17, .ref a18, .ref a19, .ref a20, .ref a21, .ref a22, .ref a23, .ref a24, .ref a25, .ref a26, .ref a27, .ref a28, .ref a29, .ref a30, .ref a31, .ref a32, .ref a33, .ref a34, .ref a35, .int 0, .int 0, .int 0, .int 0, .int 0, .ref a36, .ref a37, .ref a38, .ref a39, .ref a40, .ref a41, .ref a42, .ref a43, .ref a44, .ref a45, .ref a46, .int 0, .int 0, .ref a47, .ref a48, .ref a49, .ref a50, .ref a1, .ref a2, .ref a51]))] := hD
      refine lv_aload_n hx hb dX10_image_21 rfl (lv_at hl 0 rfl) ?_
      refine va_get (D := (dC, dI)) (ci := 10) (v := .ref a2) (C := RX10) (T := TX10) (N := 67) hx hb hts iwX10 hown hK hP 2 rfl rfl 65 (by decide) (hts _ mw_1241) (fun _ h9 => h9) rfl dX10_image_22 ?_
      refine lv_iload_n hx hb dX10_image_25 rfl (lv_at hl 1 rfl) ?_
      refine lv_aload_n hx hb dX10_image_26 rfl (lv_at hl 0 rfl) ?_
      refine va_get (D := (dC, dI)) (ci := 10) (v := .int 0) (C := RX10) (T := TX10) (N := 67) hx hb hts iwX10 hown hK hP 2 rfl rfl 59 (by decide) (hts _ mw_1235) (fun _ h9 => h9) rfl dX10_image_27 ?_
      refine x_iast (k := 1) hx hb hK hP hD hS 1 1 rfl rfl (by decide) (by decide) (by decide) dX10_image_30 (fun _ => 0) (upc _) (fun H locs hP hD hS => ?_)
      have hP : va_P (dC, dI) CL [(a1, .inl (k0, 3, .inl (upd (upd (upd (upd (fun _ => 0) 0 (-1)) 1 (-1)) 2 (-1)) 1 0))), (a2, .inl (k1, 3, .inl (fun _ => 0))), (a0, .inr (10, [.ref a3, .ref a4, .int 0, .int 0, .int 0, .int (-1), .int 0, .int 0, .int 0, .int 0, .long 0, .ref a5, .ref a6, .ref a7, .ref a8, .ref a9, .ref a10, .ref a11, .ref a12, .ref a13, .ref a14, .ref a15, .ref a16, .ref a17, .ref a18, .ref a19, .ref a20, .ref a21, .ref a22, .ref a23, .ref a24, .ref a25, .ref a26, .ref a27, .ref a28, .ref a29, .ref a30, .ref a31, .ref a32, .ref a33, .ref a34, .ref a35, .int 0, .int 0, .int 0, .int 0, .int 0, .ref a36, .ref a37, .ref a38, .ref a39, .ref a40, .ref a41, .ref a42, .ref a43, .ref a44, .ref a45, .ref a46, .int 0, .int 0, .ref a47, .ref a48, .ref a49, .ref a50, .ref a1, .ref a2, .ref a51]))] H := hP
      have hD : va_D A [(a1, .inl (k0, 3, .inl (upd (upd (upd (upd (fun _ => 0) 0 (-1)) 1 (-1)) 2 (-1)) 1 0))), (a2, .inl (k1, 3, .inl (fun _ => 0))), (a0, .inr (10, [.ref a3, .ref a4, .int 0, .int 0, .int 0, .int (-1), .int 0, .int 0, .int 0, .int 0, .long 0, .ref a5, .ref a6, .ref a7, .ref a8, .ref a9, .ref a10, .ref a11, .ref a12, .ref a13, .ref a14, .ref a15, .ref a16, .ref a17, .ref a18, .ref a19, .ref a20, .ref a21, .ref a22, .ref a23, .ref a24, .ref a25, .ref a26, .ref a27, .ref a28, .ref a29, .ref a30, .ref a31, .ref a32, .ref a33, .ref a34, .ref a35, .int 0, .int 0, .int 0, .int 0, .int 0, .ref a36, .ref a37, .ref a38, .ref a39, .ref a40, .ref a41, .ref a42, .ref a43, .ref a44, .ref a45, .ref a46, .int 0, .int 0, .ref a47, .ref a48, .ref a49, .ref a50, .ref a1, .ref a2, .ref a51]))] := hD
      refine lv_iconst (v := 0) hx hb dX10_image_31 (by decide) ?_
      refine lv_istore_n (lv' := [(2, .int 0), (0, .ref a0), (1, .int 1)]) hx hb dX10_image_32 rfl hl (by decide) rfl (fun ls hl => ?_)
      refine lv_iload_n hx hb dX10_image_33 rfl (lv_at hl 0 rfl) ?_
      refine lv_aload_n hx hb dX10_image_34 rfl (lv_at hl 1 rfl) ?_
      refine va_get (D := (dC, dI)) (ci := 10) (v := .int 0) (C := RX10) (T := TX10) (N := 67) hx hb hts iwX10 hown hK hP 2 rfl rfl 58 (by decide) (hts _ mw_1234) (fun _ h9 => h9) rfl dX10_image_35 ?_
      refine lv_icmp_ge (tgt := 125) hx hb dX10_image_38 (by decide) (fun _ => ?_) (fun h => (h (by decide)).elim)
      refine lv_aload_n hx hb dX10_image_125 rfl (lv_at hl 1 rfl) ?_
      refine va_get (D := (dC, dI)) (ci := 10) (v := .int 0) (C := RX10) (T := TX10) (N := 67) hx hb hts iwX10 hown hK hP 2 rfl rfl 58 (by decide) (hts _ mw_1234) (fun _ h9 => h9) rfl dX10_image_126 ?_
      refine W.widen (k := 0) (n := 0) (Nat.le_of_ble_eq_true rfl) (Nat.le_of_ble_eq_true rfl) ?_
      exact W.iret (v := 0) hx hb hr (fun t ht hW => ⟨⟨0, (), rfl, (by first | decide | exact (if_pos (by omega)).symm | exact (if_neg (by omega)).symm), trivial⟩, hS.F ht⟩) hS.2.2 dX10_image_129
    by_cases h_9 : p0 = 2
    · subst h_9
      refine x_iast (k := 2) hx hb hK hP hD hS 0 0 rfl rfl (by decide) (by decide) (by decide) dX10_image_20 (upd (upd (upd (upd (fun _ => 0) 0 (-1)) 1 (-1)) 2 (-1)) 2 0) rfl (fun H locs hP hD hS => ?_)
      have hP : va_P (dC, dI) CL [(a1, .inl (k0, 3, .inl (upd (upd (upd (upd (fun _ => 0) 0 (-1)) 1 (-1)) 2 (-1)) 2 0))), (a2, .inl (k1, 3, .inl (fun _ => 0))), (a0, .inr (10, [.ref a3, .ref a4, .int 0, .int 0, .int 0, .int (-1), .int 0, .int 0, .int 0, .int 0, .long 0, .ref a5, .ref a6, .ref a7, .ref a8, .ref a9, .ref a10, .ref a11, .ref a12, .ref a13, .ref a14, .ref a15, .ref a16, .ref a17, .ref a18, .ref a19, .ref a20, .ref a21, .ref a22, .ref a23, .ref a24, .ref a25, .ref a26, .ref a27, .ref a28, .ref a29, .ref a30, .ref a31, .ref a32, .ref a33, .ref a34, .ref a35, .int 0, .int 0, .int 0, .int 0, .int 0, .ref a36, .ref a37, .ref a38, .ref a39, .ref a40, .ref a41, .ref a42, .ref a43, .ref a44, .ref a45, .ref a46, .int 0, .int 0, .ref a47, .ref a48, .ref a49, .ref a50, .ref a1, .ref a2, .ref a51]))] H := hP
      have hD : va_D A [(a1, .inl (k0, 3, .inl (upd (upd (upd (upd (fun _ => 0) 0 (-1)) 1 (-1)) 2 (-1)) 2 0))), (a2, .inl (k1, 3, .inl (fun _ => 0))), (a0, .inr (10, [.ref a3, .ref a4, .int 0, .int 0, .int 0, .int (-1), .int 0, .int 0, .int 0, .int 0, .long 0, .ref a5, .ref a6, .ref a7, .ref a8, .ref a9, .ref a10, .ref a11, .ref a12, .ref a13, .ref a14, .ref a15, .ref a16, .ref a17, .ref a18, .ref a19, .ref a20, .ref a21, .ref a22, .ref a23, .ref a24, .ref a25, .ref a26, .ref a27, .ref a28, .ref a29, .ref a30, .ref a31, .ref a32, .ref a33, .ref a34, .ref a35, .int 0, .int 0, .int 0, .int 0, .int 0, .ref a36, .ref a37, .ref a38, .ref a39, .ref a40, .ref a41, .ref a42, .ref a43, .ref a44, .ref a45, .ref a46, .int 0, .int 0, .ref a47, .ref a48, .ref a49, .ref a50, .ref a1, .ref a2, .ref a51]))] := hD
      refine lv_aload_n hx hb dX10_image_21 rfl (lv_at hl 0 rfl) ?_
      refine va_get (D := (dC, dI)) (ci := 10) (v := .ref a2) (C := RX10) (T := TX10) (N := 67) hx hb hts iwX10 hown hK hP 2 rfl rfl 65 (by decide) (hts _ mw_1241) (fun _ h9 => h9) rfl dX10_image_22 ?_
      refine lv_iload_n hx hb dX10_image_25 rfl (lv_at hl 1 rfl) ?_
      refine lv_aload_n hx hb dX10_image_26 rfl (lv_at hl 0 rfl) ?_
      refine va_get (D := (dC, dI)) (ci := 10) (v := .int 0) (C := RX10) (T := TX10) (N := 67) hx hb hts iwX10 hown hK hP 2 rfl rfl 59 (by decide) (hts _ mw_1235) (fun _ h9 => h9) rfl dX10_image_27 ?_
      refine x_iast (k := 2) hx hb hK hP hD hS 1 1 rfl rfl (by decide) (by decide) (by decide) dX10_image_30 (fun _ => 0) (upc _) (fun H locs hP hD hS => ?_)
      have hP : va_P (dC, dI) CL [(a1, .inl (k0, 3, .inl (upd (upd (upd (upd (fun _ => 0) 0 (-1)) 1 (-1)) 2 (-1)) 2 0))), (a2, .inl (k1, 3, .inl (fun _ => 0))), (a0, .inr (10, [.ref a3, .ref a4, .int 0, .int 0, .int 0, .int (-1), .int 0, .int 0, .int 0, .int 0, .long 0, .ref a5, .ref a6, .ref a7, .ref a8, .ref a9, .ref a10, .ref a11, .ref a12, .ref a13, .ref a14, .ref a15, .ref a16, .ref a17, .ref a18, .ref a19, .ref a20, .ref a21, .ref a22, .ref a23, .ref a24, .ref a25, .ref a26, .ref a27, .ref a28, .ref a29, .ref a30, .ref a31, .ref a32, .ref a33, .ref a34, .ref a35, .int 0, .int 0, .int 0, .int 0, .int 0, .ref a36, .ref a37, .ref a38, .ref a39, .ref a40, .ref a41, .ref a42, .ref a43, .ref a44, .ref a45, .ref a46, .int 0, .int 0, .ref a47, .ref a48, .ref a49, .ref a50, .ref a1, .ref a2, .ref a51]))] H := hP
      have hD : va_D A [(a1, .inl (k0, 3, .inl (upd (upd (upd (upd (fun _ => 0) 0 (-1)) 1 (-1)) 2 (-1)) 2 0))), (a2, .inl (k1, 3, .inl (fun _ => 0))), (a0, .inr (10, [.ref a3, .ref a4, .int 0, .int 0, .int 0, .int (-1), .int 0, .int 0, .int 0, .int 0, .long 0, .ref a5, .ref a6, .ref a7, .ref a8, .ref a9, .ref a10, .ref a11, .ref a12, .ref a13, .ref a14, .ref a15, .ref a16, .ref a17, .ref a18, .ref a19, .ref a20, .ref a21, .ref a22, .ref a23, .ref a24, .ref a25, .ref a26, .ref a27, .ref a28, .ref a29, .ref a30, .ref a31, .ref a32, .ref a33, .ref a34, .ref a35, .int 0, .int 0, .int 0, .int 0, .int 0, .ref a36, .ref a37, .ref a38, .ref a39, .ref a40, .ref a41, .ref a42, .ref a43, .ref a44, .ref a45, .ref a46, .int 0, .int 0, .ref a47, .ref a48, .ref a49, .ref a50, .ref a1, .ref a2, .ref a51]))] := hD
      refine lv_iconst (v := 0) hx hb dX10_image_31 (by decide) ?_
      refine lv_istore_n (lv' := [(2, .int 0), (0, .ref a0), (1, .int 2)]) hx hb dX10_image_32 rfl hl (by decide) rfl (fun ls hl => ?_)
      refine lv_iload_n hx hb dX10_image_33 rfl (lv_at hl 0 rfl) ?_
      refine lv_aload_n hx hb dX10_image_34 rfl (lv_at hl 1 rfl) ?_
      refine va_get (D := (dC, dI)) (ci := 10) (v := .int 0) (C := RX10) (T := TX10) (N := 67) hx hb hts iwX10 hown hK hP 2 rfl rfl 58 (by decide) (hts _ mw_1234) (fun _ h9 => h9) rfl dX10_image_35 ?_
      refine lv_icmp_ge (tgt := 125) hx hb dX10_image_38 (by decide) (fun _ => ?_) (fun h => (h (by decide)).elim)
      refine lv_aload_n hx hb dX10_image_125 rfl (lv_at hl 1 rfl) ?_
      refine va_get (D := (dC, dI)) (ci := 10) (v := .int 0) (C := RX10) (T := TX10) (N := 67) hx hb hts iwX10 hown hK hP 2 rfl rfl 58 (by decide) (hts _ mw_1234) (fun _ h9 => h9) rfl dX10_image_126 ?_
      refine W.widen (k := 0) (n := 0) (Nat.le_of_ble_eq_true rfl) (Nat.le_of_ble_eq_true rfl) ?_
      exact W.iret (v := 0) hx hb hr (fun t ht hW => ⟨⟨0, (), rfl, (by first | decide | exact (if_pos (by omega)).symm | exact (if_neg (by omega)).symm), trivial⟩, hS.F ht⟩) hS.2.2 dX10_image_129
    exact absurd (show False by have kh_5 := nlt_i h_5; have kh_6 := nlt_i h_6; have kh_7 := ne_i h_7; have kh_8 := ne_i h_8; have kh_9 := ne_i h_9; simp only [xi_0, xi_1, xi_2] at kh_5 kh_6 kh_7 kh_8 kh_9; omega) id
set_option maxHeartbeats 4000000 in
set_option maxRecDepth 100000 in
theorem zX10_back (l : Launch) (dC : Nat → ClassId) (dI : Nat → Nat → Nat) (adK adV : Nat → Nat) (sz : Nat) (a0 : Nat) (p0 : Int32) (a1 : Nat) (k0 : ClassId) (a2 : Nat) (a3 : Nat) (a4 : Nat) (a5 : Nat) (a6 : Nat) (a7 : Nat) (a8 : Nat) (a9 : Nat) (a10 : Nat) (a11 : Nat) (a12 : Nat) (a13 : Nat) (a14 : Nat) (a15 : Nat) (a16 : Nat) (a17 : Nat) (a18 : Nat) (a19 : Nat) (a20 : Nat) (a21 : Nat) (a22 : Nat) (a23 : Nat) (a24 : Nat) (a25 : Nat) (a26 : Nat) (a27 : Nat) (a28 : Nat) (a29 : Nat) (a30 : Nat) (a31 : Nat) (a32 : Nat) (a33 : Nat) (a34 : Nat) (a35 : Nat) (a36 : Nat) (a37 : Nat) (a38 : Nat) (a39 : Nat) (a40 : Nat) (a41 : Nat) (a42 : Nat) (a43 : Nat) (a44 : Nat) (a45 : Nat) (a46 : Nat) (a47 : Nat) (a48 : Nat) (a49 : Nat) (a50 : Nat) (a51 : Nat) : Met l yX10_back (Cond.code yX10_back cX10_back 4 (some .int) :: TB) ({ frames := 2, cells := 0, slots := 0, locals := 122 }) (XP (dC, dI) adK adV [.ref a0, .int p0] sz [(a1, .inl (k0, 3, .inl (upd (upd (upd (fun _ => 0) 0 (-1)) 1 (-1)) 2 (-1)))), (a0, .inr (10, [.ref a2, .ref a3, .int 0, .int 0, .int 0, .int (-1), .int 0, .int 0, .int 0, .int 0, .long 0, .ref a4, .ref a5, .ref a6, .ref a7, .ref a8, .ref a9, .ref a10, .ref a11, .ref a12, .ref a13, .ref a14, .ref a15, .ref a16, .ref a17, .ref a18, .ref a19, .ref a20, .ref a21, .ref a22, .ref a23, .ref a24, .ref a25, .ref a26, .ref a27, .ref a28, .ref a29, .ref a30, .ref a31, .ref a32, .ref a33, .ref a34, .int 0, .int 0, .int 0, .int 0, .int 0, .ref a35, .ref a36, .ref a37, .ref a38, .ref a39, .ref a40, .ref a41, .ref a42, .ref a43, .ref a44, .ref a45, .int 0, .int 0, .ref a46, .ref a47, .ref a48, .ref a49, .ref a1, .ref a50, .ref a51]))] [(k0, .int)]) (va_Qi (fun (r : Int32) (_ : Unit) => r = (-1)) (fun _ _ => True) (va_A [(a1, .inl (k0, 3, .inl (upd (upd (upd (fun _ => 0) 0 (-1)) 1 (-1)) 2 (-1)))), (a0, .inr (10, [.ref a2, .ref a3, .int 0, .int 0, .int 0, .int (-1), .int 0, .int 0, .int 0, .int 0, .long 0, .ref a4, .ref a5, .ref a6, .ref a7, .ref a8, .ref a9, .ref a10, .ref a11, .ref a12, .ref a13, .ref a14, .ref a15, .ref a16, .ref a17, .ref a18, .ref a19, .ref a20, .ref a21, .ref a22, .ref a23, .ref a24, .ref a25, .ref a26, .ref a27, .ref a28, .ref a29, .ref a30, .ref a31, .ref a32, .ref a33, .ref a34, .int 0, .int 0, .int 0, .int 0, .int 0, .ref a35, .ref a36, .ref a37, .ref a38, .ref a39, .ref a40, .ref a41, .ref a42, .ref a43, .ref a44, .ref a45, .int 0, .int 0, .ref a46, .ref a47, .ref a48, .ref a49, .ref a1, .ref a50, .ref a51]))] sz)) 0 0 (va_A [(a1, .inl (k0, 3, .inl (upd (upd (upd (fun _ => 0) 0 (-1)) 1 (-1)) 2 (-1)))), (a0, .inr (10, [.ref a2, .ref a3, .int 0, .int 0, .int 0, .int (-1), .int 0, .int 0, .int 0, .int 0, .long 0, .ref a4, .ref a5, .ref a6, .ref a7, .ref a8, .ref a9, .ref a10, .ref a11, .ref a12, .ref a13, .ref a14, .ref a15, .ref a16, .ref a17, .ref a18, .ref a19, .ref a20, .ref a21, .ref a22, .ref a23, .ref a24, .ref a25, .ref a26, .ref a27, .ref a28, .ref a29, .ref a30, .ref a31, .ref a32, .ref a33, .ref a34, .int 0, .int 0, .int 0, .int 0, .int 0, .ref a35, .ref a36, .ref a37, .ref a38, .ref a39, .ref a40, .ref a41, .ref a42, .ref a43, .ref a44, .ref a45, .int 0, .int 0, .ref a46, .ref a47, .ref a48, .ref a49, .ref a1, .ref a50, .ref a51]))] sz) := by
  refine Met.ofW (cc := cX10_back) (maxL := 4) (ret := (some .int)) (by decide) rfl ?_
  intro p e s m args below meth c s₁ B hml hv
  obtain ⟨rfl, hsz, hP, hK, hD0, hC⟩ := hv
  have hx := B.exec
  have hb := B.bytes
  have hr := B.returns
  have hts0 := atoms_spec (ws := Cond.code yX10_back cX10_back 4 (some .int) :: TB) B.pre
  have hts : ∀ w ∈ TB, w.before _ s = true := fun w h => hts0 w (List.mem_cons_of_mem _ h)
  have hown : s.vm.findClass RX10 = some m.cls := findClass_of_methodNamed B.named
  have hlocks := B.notSynchronized
  subst hsz
  have hD := hD0.self (sz := s.heap.size)
  generalize hAe : va_A [(a1, .inl (k0, 3, .inl (upd (upd (upd (fun _ => 0) 0 (-1)) 1 (-1)) 2 (-1)))), (a0, .inr (10, [.ref a2, .ref a3, .int 0, .int 0, .int 0, .int (-1), .int 0, .int 0, .int 0, .int 0, .long 0, .ref a4, .ref a5, .ref a6, .ref a7, .ref a8, .ref a9, .ref a10, .ref a11, .ref a12, .ref a13, .ref a14, .ref a15, .ref a16, .ref a17, .ref a18, .ref a19, .ref a20, .ref a21, .ref a22, .ref a23, .ref a24, .ref a25, .ref a26, .ref a27, .ref a28, .ref a29, .ref a30, .ref a31, .ref a32, .ref a33, .ref a34, .int 0, .int 0, .int 0, .int 0, .int 0, .ref a35, .ref a36, .ref a37, .ref a38, .ref a39, .ref a40, .ref a41, .ref a42, .ref a43, .ref a44, .ref a45, .int 0, .int 0, .ref a46, .ref a47, .ref a48, .ref a49, .ref a1, .ref a50, .ref a51]))] s.heap.size = A at hD hC ⊢
  have hA : ∀ q : Nat, s.heap.size ≤ q → A q := fun q h => by rw [← hAe]; exact Or.inr h
  have hl := lv_entry ([.ref a0, .int p0]) (n := 4) (Nat.le_of_ble_eq_true rfl)
  rw [lg_entry_eq]
  generalize (lg_sl ([.ref a0, .int p0]) ++ List.replicate (4 - (lg_sl ([.ref a0, .int p0])).length) Slot.unset).toArray = ls at hl ⊢
  have hl : lv_has ls 4 [(0, .ref a0), (1, .int p0)] := hl
  have hP : va_P (dC, dI) CL [(a1, .inl (k0, 3, .inl (upd (upd (upd (fun _ => 0) 0 (-1)) 1 (-1)) 2 (-1)))), (a0, .inr (10, [.ref a2, .ref a3, .int 0, .int 0, .int 0, .int (-1), .int 0, .int 0, .int 0, .int 0, .long 0, .ref a4, .ref a5, .ref a6, .ref a7, .ref a8, .ref a9, .ref a10, .ref a11, .ref a12, .ref a13, .ref a14, .ref a15, .ref a16, .ref a17, .ref a18, .ref a19, .ref a20, .ref a21, .ref a22, .ref a23, .ref a24, .ref a25, .ref a26, .ref a27, .ref a28, .ref a29, .ref a30, .ref a31, .ref a32, .ref a33, .ref a34, .int 0, .int 0, .int 0, .int 0, .int 0, .ref a35, .ref a36, .ref a37, .ref a38, .ref a39, .ref a40, .ref a41, .ref a42, .ref a43, .ref a44, .ref a45, .int 0, .int 0, .ref a46, .ref a47, .ref a48, .ref a49, .ref a1, .ref a50, .ref a51]))] s.heap := hP
  obtain ⟨H, hH⟩ : ∃ z, z = s.heap := ⟨_, rfl⟩
  rw [← hH] at hP ⊢
  have hS : va_S A s.heap H [] := by rw [hH]; exact va_S.rf
  refine lv_iload_n hx hb dX10_back_0 rfl (lv_at hl 1 rfl) ?_
  refine lv_iconst (v := 0) hx hb dX10_back_1 (by decide) ?_
  refine lv_iconst (v := 2) hx hb dX10_back_2 (by decide) ?_
  have hPc := hP.sub (ws' := []) [] rfl
  have hDc := hD.sub (ws' := []) [] (by decide) rfl
  have hKc := hK.sub (tys' := []) [] rfl
  have hFc := va_free (wc := []) hD hS hA [] rfl
  refine va_calli (va_runS (As := [.int p0, .int 0, .int 2]) (rest := []) ⟨hx, hb, hml, hown, hts⟩ (zX10_isIn_5 l dC dI adK adV H.size p0) (va_cwS 3 hts (tb_S mw_1123 mw_1124 mw_115 mw_1125) rfl rfl rfl (by decide +kernel) ⟨Nat.le_of_ble_eq_true rfl, Nat.le_of_ble_eq_true rfl⟩) ⟨XB, XQ (av := [.int p0, .int 0, .int 2]) hPc hKc hDc hC hS hFc⟩ rfl rfl hl.1 rfl (lv_room (Nat.le_of_ble_eq_true rfl)) dX10_back_3 ⟨Nat.le_of_ble_eq_true rfl, Nat.le_of_ble_eq_true rfl⟩) hS (fun q _ h => hFc q h) hFc (fun r_1 u_9 t H1 locs ht hvm hw hB hz1 hk1 hS => ?_)
  try dsimp only at hw
  obtain ⟨hP1, hK1, hD1⟩ := hB
  rw [ht] at hP1
  have hK1 := va_K.moved hvm.symm hK1
  obtain ⟨hP, hD⟩ := va_join (wr := [(a1, .inl (k0, 3, .inl (upd (upd (upd (fun _ => 0) 0 (-1)) 1 (-1)) 2 (-1)))), (a0, .inr (10, [.ref a2, .ref a3, .int 0, .int 0, .int 0, .int (-1), .int 0, .int 0, .int 0, .int 0, .long 0, .ref a4, .ref a5, .ref a6, .ref a7, .ref a8, .ref a9, .ref a10, .ref a11, .ref a12, .ref a13, .ref a14, .ref a15, .ref a16, .ref a17, .ref a18, .ref a19, .ref a20, .ref a21, .ref a22, .ref a23, .ref a24, .ref a25, .ref a26, .ref a27, .ref a28, .ref a29, .ref a30, .ref a31, .ref a32, .ref a33, .ref a34, .int 0, .int 0, .int 0, .int 0, .int 0, .ref a35, .ref a36, .ref a37, .ref a38, .ref a39, .ref a40, .ref a41, .ref a42, .ref a43, .ref a44, .ref a45, .int 0, .int 0, .ref a46, .ref a47, .ref a48, .ref a49, .ref a1, .ref a50, .ref a51]))]) (w1 := []) hP hD [] [0, 1] rfl rfl (by decide) (by decide) hk1 hFc hP1 hD1
  have hK := (hK.sub (tys' := [(k0, .int)]) [0] rfl).app hK1
  generalize H1 = H at hP hS ⊢
  have hP : va_P (dC, dI) CL [(a1, .inl (k0, 3, .inl (upd (upd (upd (fun _ => 0) 0 (-1)) 1 (-1)) 2 (-1)))), (a0, .inr (10, [.ref a2, .ref a3, .int 0, .int 0, .int 0, .int (-1), .int 0, .int 0, .int 0, .int 0, .long 0, .ref a4, .ref a5, .ref a6, .ref a7, .ref a8, .ref a9, .ref a10, .ref a11, .ref a12, .ref a13, .ref a14, .ref a15, .ref a16, .ref a17, .ref a18, .ref a19, .ref a20, .ref a21, .ref a22, .ref a23, .ref a24, .ref a25, .ref a26, .ref a27, .ref a28, .ref a29, .ref a30, .ref a31, .ref a32, .ref a33, .ref a34, .int 0, .int 0, .int 0, .int 0, .int 0, .ref a35, .ref a36, .ref a37, .ref a38, .ref a39, .ref a40, .ref a41, .ref a42, .ref a43, .ref a44, .ref a45, .int 0, .int 0, .ref a46, .ref a47, .ref a48, .ref a49, .ref a1, .ref a50, .ref a51]))] H := hP
  have hD : va_D A [(a1, .inl (k0, 3, .inl (upd (upd (upd (fun _ => 0) 0 (-1)) 1 (-1)) 2 (-1)))), (a0, .inr (10, [.ref a2, .ref a3, .int 0, .int 0, .int 0, .int (-1), .int 0, .int 0, .int 0, .int 0, .long 0, .ref a4, .ref a5, .ref a6, .ref a7, .ref a8, .ref a9, .ref a10, .ref a11, .ref a12, .ref a13, .ref a14, .ref a15, .ref a16, .ref a17, .ref a18, .ref a19, .ref a20, .ref a21, .ref a22, .ref a23, .ref a24, .ref a25, .ref a26, .ref a27, .ref a28, .ref a29, .ref a30, .ref a31, .ref a32, .ref a33, .ref a34, .int 0, .int 0, .int 0, .int 0, .int 0, .ref a35, .ref a36, .ref a37, .ref a38, .ref a39, .ref a40, .ref a41, .ref a42, .ref a43, .ref a44, .ref a45, .int 0, .int 0, .ref a46, .ref a47, .ref a48, .ref a49, .ref a1, .ref a50, .ref a51]))] := hD
  have hK : va_K (dC, dI) CL [(k0, .int)] s := hK
  rcases hw with ⟨hw, h_2⟩ | ⟨hw, h_3, h_4⟩ | ⟨hw, h_5, h_6⟩
  · subst hw
    refine lv_if_eq (tgt := 18) hx hb dX10_back_6 (by decide) (fun _ => ?_) (fun h => (h (by decide)).elim)
    refine lv_iconst (v := (-1)) hx hb dX10_back_18 (by decide) ?_
    refine W.widen (k := 0) (n := 0) (Nat.le_of_ble_eq_true rfl) (Nat.le_of_ble_eq_true rfl) ?_
    exact W.iret (v := (-1)) hx hb hr (fun t ht hW => ⟨⟨(-1), (), rfl, rfl, trivial⟩, hS.F ht⟩) hS.2.2 dX10_back_19
  · subst hw
    refine lv_if_eq (tgt := 18) hx hb dX10_back_6 (by decide) (fun _ => ?_) (fun h => (h (by decide)).elim)
    refine lv_iconst (v := (-1)) hx hb dX10_back_18 (by decide) ?_
    refine W.widen (k := 0) (n := 0) (Nat.le_of_ble_eq_true rfl) (Nat.le_of_ble_eq_true rfl) ?_
    exact W.iret (v := (-1)) hx hb hr (fun t ht hW => ⟨⟨(-1), (), rfl, rfl, trivial⟩, hS.F ht⟩) hS.2.2 dX10_back_19
  · subst hw
    refine lv_if_eq (tgt := 18) hx hb dX10_back_6 (by decide) (fun h => absurd h (by decide)) (fun _ => ?_)
    refine lv_aload_n hx hb dX10_back_9 rfl (lv_at hl 0 rfl) ?_
    refine va_get (D := (dC, dI)) (ci := 10) (v := .ref a1) (C := RX10) (T := TX10) (N := 67) hx hb hts iwX10 hown hK hP 1 rfl rfl 64 (by decide) (hts _ mw_1240) (fun _ h9 => h9) rfl dX10_back_10 ?_
    refine lv_iload_n hx hb dX10_back_13 rfl (lv_at hl 1 rfl) ?_
    by_cases h_7 : p0 = 0
    · subst h_7
      refine x_iald (k := 0) (v := (-1)) hx hb hK hP 0 0 rfl rfl (by decide) (by decide) (by decide) rfl dX10_back_14 ?_
      refine lv_if_ge (tgt := 20) hx hb dX10_back_15 (by decide) (fun h => absurd h (by decide)) (fun _ => ?_)
      refine lv_iconst (v := (-1)) hx hb dX10_back_18 (by decide) ?_
      refine W.widen (k := 0) (n := 0) (Nat.le_of_ble_eq_true rfl) (Nat.le_of_ble_eq_true rfl) ?_
      exact W.iret (v := (-1)) hx hb hr (fun t ht hW => ⟨⟨(-1), (), rfl, rfl, trivial⟩, hS.F ht⟩) hS.2.2 dX10_back_19
    by_cases h_8 : p0 = 1
    · subst h_8
      refine x_iald (k := 1) (v := (-1)) hx hb hK hP 0 0 rfl rfl (by decide) (by decide) (by decide) rfl dX10_back_14 ?_
      refine lv_if_ge (tgt := 20) hx hb dX10_back_15 (by decide) (fun h => absurd h (by decide)) (fun _ => ?_)
      refine lv_iconst (v := (-1)) hx hb dX10_back_18 (by decide) ?_
      refine W.widen (k := 0) (n := 0) (Nat.le_of_ble_eq_true rfl) (Nat.le_of_ble_eq_true rfl) ?_
      exact W.iret (v := (-1)) hx hb hr (fun t ht hW => ⟨⟨(-1), (), rfl, rfl, trivial⟩, hS.F ht⟩) hS.2.2 dX10_back_19
    by_cases h_9 : p0 = 2
    · subst h_9
      refine x_iald (k := 2) (v := (-1)) hx hb hK hP 0 0 rfl rfl (by decide) (by decide) (by decide) rfl dX10_back_14 ?_
      refine lv_if_ge (tgt := 20) hx hb dX10_back_15 (by decide) (fun h => absurd h (by decide)) (fun _ => ?_)
      refine lv_iconst (v := (-1)) hx hb dX10_back_18 (by decide) ?_
      refine W.widen (k := 0) (n := 0) (Nat.le_of_ble_eq_true rfl) (Nat.le_of_ble_eq_true rfl) ?_
      exact W.iret (v := (-1)) hx hb hr (fun t ht hW => ⟨⟨(-1), (), rfl, rfl, trivial⟩, hS.F ht⟩) hS.2.2 dX10_back_19
    exact absurd (show False by have kh_5 := nlt_i h_5; have kh_6 := nlt_i h_6; have kh_7 := ne_i h_7; have kh_8 := ne_i h_8; have kh_9 := ne_i h_9; simp only [xi_0, xi_1, xi_2] at kh_5 kh_6 kh_7 kh_8 kh_9; omega) id
set_option maxHeartbeats 4000000 in
set_option maxRecDepth 100000 in
theorem zX10_about (l : Launch) (dC : Nat → ClassId) (dI : Nat → Nat → Nat) (adK adV : Nat → Nat) (sz : Nat) (a0 : Nat) (p0 : Int32) (a1 : Nat) (k0 : ClassId) (a2 : Nat) (k1 : ClassId) (a3 : Nat) (k2 : ClassId) (a4 : Nat) (k3 : ClassId) (a5 : Nat) (k4 : ClassId) (a6 : Nat) (k5 : ClassId) (a7 : Nat) (k6 : ClassId) (a8 : Nat) (a9 : Nat) (a10 : Nat) (a11 : Nat) (a12 : Nat) (a13 : Nat) (a14 : Nat) (a15 : Nat) (a16 : Nat) (a17 : Nat) (a18 : Nat) (a19 : Nat) (a20 : Nat) (a21 : Nat) (a22 : Nat) (a23 : Nat) (a24 : Nat) (a25 : Nat) (a26 : Nat) (a27 : Nat) (a28 : Nat) (a29 : Nat) (a30 : Nat) (a31 : Nat) (a32 : Nat) (a33 : Nat) (a34 : Nat) (a35 : Nat) (a36 : Nat) (a37 : Nat) (a38 : Nat) (a39 : Nat) (a40 : Nat) (a41 : Nat) (a42 : Nat) (a43 : Nat) (a44 : Nat) (a45 : Nat) (a46 : Nat) (a47 : Nat) (a48 : Nat) (a49 : Nat) (a50 : Nat) (a51 : Nat) (k7 : ClassId) : Met l yX10_about (Cond.code yX10_about cX10_about 2 (some .int) :: TB) ({ frames := 2, cells := 0, slots := 0, locals := 120 }) (XP (dC, dI) adK adV [.ref a0, .int p0] sz [(a1, .inl (k0, 2, .inl (fun _ => 0))), (a2, .inl (k1, 2, .inl (fun _ => 0))), (a3, .inl (k2, 2, .inl (fun _ => 0))), (a4, .inl (k3, 2, .inl (fun _ => 0))), (a5, .inl (k4, 2, .inl (fun _ => 0))), (a6, .inl (k5, 2, .inl (fun _ => 0))), (a7, .inl (k6, 2, .inl (fun _ => 0))), (a0, .inr (10, [.ref a8, .ref a9, .int 0, .int 0, .int 0, .int (-1), .int 0, .int 0, .int 0, .int 0, .long 0, .ref a1, .ref a2, .ref a3, .ref a4, .ref a10, .ref a5, .ref a6, .ref a11, .ref a12, .ref a7, .ref a13, .ref a14, .ref a15, .ref a16, .ref a17, .ref a18, .ref a19, .ref a20, .ref a21, .ref a22, .ref a23, .ref a24, .ref a25, .ref a26, .ref a27, .ref a28, .ref a29, .ref a30, .ref a31, .ref a32, .ref a33, .int 0, .int 0, .int 0, .int 0, .int 0, .ref a34, .ref a35, .ref a36, .ref a37, .ref a38, .ref a39, .ref a40, .ref a41, .ref a42, .ref a43, .ref a44, .int 0, .int 0, .ref a45, .ref a46, .ref a47, .ref a48, .ref a49, .ref a50, .ref a51])), (a12, .inl (k7, 2, .inl (fun _ => 0)))] [(k0, .int), (k1, .int), (k2, .int), (k3, .int), (k4, .int), (k5, .int), (k6, .int), (k7, .int)]) (va_Qi (fun (r : Int32) (_ : Unit) => r = res_about p0) (fun _ _ => True) (va_A [(a1, .inl (k0, 2, .inl (fun _ => 0))), (a2, .inl (k1, 2, .inl (fun _ => 0))), (a3, .inl (k2, 2, .inl (fun _ => 0))), (a4, .inl (k3, 2, .inl (fun _ => 0))), (a5, .inl (k4, 2, .inl (fun _ => 0))), (a6, .inl (k5, 2, .inl (fun _ => 0))), (a7, .inl (k6, 2, .inl (fun _ => 0))), (a0, .inr (10, [.ref a8, .ref a9, .int 0, .int 0, .int 0, .int (-1), .int 0, .int 0, .int 0, .int 0, .long 0, .ref a1, .ref a2, .ref a3, .ref a4, .ref a10, .ref a5, .ref a6, .ref a11, .ref a12, .ref a7, .ref a13, .ref a14, .ref a15, .ref a16, .ref a17, .ref a18, .ref a19, .ref a20, .ref a21, .ref a22, .ref a23, .ref a24, .ref a25, .ref a26, .ref a27, .ref a28, .ref a29, .ref a30, .ref a31, .ref a32, .ref a33, .int 0, .int 0, .int 0, .int 0, .int 0, .ref a34, .ref a35, .ref a36, .ref a37, .ref a38, .ref a39, .ref a40, .ref a41, .ref a42, .ref a43, .ref a44, .int 0, .int 0, .ref a45, .ref a46, .ref a47, .ref a48, .ref a49, .ref a50, .ref a51])), (a12, .inl (k7, 2, .inl (fun _ => 0)))] sz)) 0 0 (va_A [(a1, .inl (k0, 2, .inl (fun _ => 0))), (a2, .inl (k1, 2, .inl (fun _ => 0))), (a3, .inl (k2, 2, .inl (fun _ => 0))), (a4, .inl (k3, 2, .inl (fun _ => 0))), (a5, .inl (k4, 2, .inl (fun _ => 0))), (a6, .inl (k5, 2, .inl (fun _ => 0))), (a7, .inl (k6, 2, .inl (fun _ => 0))), (a0, .inr (10, [.ref a8, .ref a9, .int 0, .int 0, .int 0, .int (-1), .int 0, .int 0, .int 0, .int 0, .long 0, .ref a1, .ref a2, .ref a3, .ref a4, .ref a10, .ref a5, .ref a6, .ref a11, .ref a12, .ref a7, .ref a13, .ref a14, .ref a15, .ref a16, .ref a17, .ref a18, .ref a19, .ref a20, .ref a21, .ref a22, .ref a23, .ref a24, .ref a25, .ref a26, .ref a27, .ref a28, .ref a29, .ref a30, .ref a31, .ref a32, .ref a33, .int 0, .int 0, .int 0, .int 0, .int 0, .ref a34, .ref a35, .ref a36, .ref a37, .ref a38, .ref a39, .ref a40, .ref a41, .ref a42, .ref a43, .ref a44, .int 0, .int 0, .ref a45, .ref a46, .ref a47, .ref a48, .ref a49, .ref a50, .ref a51])), (a12, .inl (k7, 2, .inl (fun _ => 0)))] sz) := by
  refine Met.ofW (cc := cX10_about) (maxL := 2) (ret := (some .int)) (by decide) rfl ?_
  intro p e s m args below meth c s₁ B hml hv
  obtain ⟨rfl, hsz, hP, hK, hD0, hC⟩ := hv
  have hx := B.exec
  have hb := B.bytes
  have hr := B.returns
  have hts0 := atoms_spec (ws := Cond.code yX10_about cX10_about 2 (some .int) :: TB) B.pre
  have hts : ∀ w ∈ TB, w.before _ s = true := fun w h => hts0 w (List.mem_cons_of_mem _ h)
  have hown : s.vm.findClass RX10 = some m.cls := findClass_of_methodNamed B.named
  have hlocks := B.notSynchronized
  subst hsz
  have hD := hD0.self (sz := s.heap.size)
  generalize hAe : va_A [(a1, .inl (k0, 2, .inl (fun _ => 0))), (a2, .inl (k1, 2, .inl (fun _ => 0))), (a3, .inl (k2, 2, .inl (fun _ => 0))), (a4, .inl (k3, 2, .inl (fun _ => 0))), (a5, .inl (k4, 2, .inl (fun _ => 0))), (a6, .inl (k5, 2, .inl (fun _ => 0))), (a7, .inl (k6, 2, .inl (fun _ => 0))), (a0, .inr (10, [.ref a8, .ref a9, .int 0, .int 0, .int 0, .int (-1), .int 0, .int 0, .int 0, .int 0, .long 0, .ref a1, .ref a2, .ref a3, .ref a4, .ref a10, .ref a5, .ref a6, .ref a11, .ref a12, .ref a7, .ref a13, .ref a14, .ref a15, .ref a16, .ref a17, .ref a18, .ref a19, .ref a20, .ref a21, .ref a22, .ref a23, .ref a24, .ref a25, .ref a26, .ref a27, .ref a28, .ref a29, .ref a30, .ref a31, .ref a32, .ref a33, .int 0, .int 0, .int 0, .int 0, .int 0, .ref a34, .ref a35, .ref a36, .ref a37, .ref a38, .ref a39, .ref a40, .ref a41, .ref a42, .ref a43, .ref a44, .int 0, .int 0, .ref a45, .ref a46, .ref a47, .ref a48, .ref a49, .ref a50, .ref a51])), (a12, .inl (k7, 2, .inl (fun _ => 0)))] s.heap.size = A at hD hC ⊢
  have hA : ∀ q : Nat, s.heap.size ≤ q → A q := fun q h => by rw [← hAe]; exact Or.inr h
  have hl := lv_entry ([.ref a0, .int p0]) (n := 2) (Nat.le_of_ble_eq_true rfl)
  rw [lg_entry_eq]
  generalize (lg_sl ([.ref a0, .int p0]) ++ List.replicate (2 - (lg_sl ([.ref a0, .int p0])).length) Slot.unset).toArray = ls at hl ⊢
  have hl : lv_has ls 2 [(0, .ref a0), (1, .int p0)] := hl
  have hP : va_P (dC, dI) CL [(a1, .inl (k0, 2, .inl (fun _ => 0))), (a2, .inl (k1, 2, .inl (fun _ => 0))), (a3, .inl (k2, 2, .inl (fun _ => 0))), (a4, .inl (k3, 2, .inl (fun _ => 0))), (a5, .inl (k4, 2, .inl (fun _ => 0))), (a6, .inl (k5, 2, .inl (fun _ => 0))), (a7, .inl (k6, 2, .inl (fun _ => 0))), (a0, .inr (10, [.ref a8, .ref a9, .int 0, .int 0, .int 0, .int (-1), .int 0, .int 0, .int 0, .int 0, .long 0, .ref a1, .ref a2, .ref a3, .ref a4, .ref a10, .ref a5, .ref a6, .ref a11, .ref a12, .ref a7, .ref a13, .ref a14, .ref a15, .ref a16, .ref a17, .ref a18, .ref a19, .ref a20, .ref a21, .ref a22, .ref a23, .ref a24, .ref a25, .ref a26, .ref a27, .ref a28, .ref a29, .ref a30, .ref a31, .ref a32, .ref a33, .int 0, .int 0, .int 0, .int 0, .int 0, .ref a34, .ref a35, .ref a36, .ref a37, .ref a38, .ref a39, .ref a40, .ref a41, .ref a42, .ref a43, .ref a44, .int 0, .int 0, .ref a45, .ref a46, .ref a47, .ref a48, .ref a49, .ref a50, .ref a51])), (a12, .inl (k7, 2, .inl (fun _ => 0)))] s.heap := hP
  obtain ⟨H, hH⟩ : ∃ z, z = s.heap := ⟨_, rfl⟩
  rw [← hH] at hP ⊢
  have hS : va_S A s.heap H [] := by rw [hH]; exact va_S.rf
  refine lv_iload_n hx hb dX10_about_0 rfl (lv_at hl 1 rfl) ?_
  by_cases h_1 : p0 = 0
  · subst h_1
    refine lv_tableIn (tgt := 60) (off := 59) hx hb dX10_about_1 (by decide) (by decide) (by decide) (by decide) ?_
    refine lv_aload_n hx hb dX10_about_60 rfl (lv_at hl 0 rfl) ?_
    refine va_get (D := (dC, dI)) (ci := 10) (v := .ref a1) (C := RX10) (T := TX10) (N := 67) hx hb hts iwX10 hown hK hP 7 rfl rfl 11 (by decide) (hts _ mw_1187) (fun _ h9 => h9) rfl dX10_about_61 ?_
    refine lv_aload_n hx hb dX10_about_64 rfl (lv_at hl 0 rfl) ?_
    refine va_get (D := (dC, dI)) (ci := 10) (v := .int 0) (C := RX10) (T := TX10) (N := 67) hx hb hts iwX10 hown hK hP 7 rfl rfl 42 (by decide) (hts _ mw_1218) (fun _ h9 => h9) rfl dX10_about_65 ?_
    refine x_iald (k := 0) (v := 0) hx hb hK hP 0 0 rfl rfl (by decide) (by decide) (by decide) rfl dX10_about_68 ?_
    refine W.widen (k := 0) (n := 0) (Nat.le_of_ble_eq_true rfl) (Nat.le_of_ble_eq_true rfl) ?_
    exact W.iret (v := 0) hx hb hr (fun t ht hW => ⟨⟨0, (), rfl, (by first | decide | exact (if_pos (by omega)).symm | exact (if_neg (by omega)).symm), trivial⟩, hS.F ht⟩) hS.2.2 dX10_about_69
  by_cases h_2 : p0 = 1
  · subst h_2
    refine lv_tableIn (tgt := 70) (off := 69) hx hb dX10_about_1 (by decide) (by decide) (by decide) (by decide) ?_
    refine lv_aload_n hx hb dX10_about_70 rfl (lv_at hl 0 rfl) ?_
    refine va_get (D := (dC, dI)) (ci := 10) (v := .ref a2) (C := RX10) (T := TX10) (N := 67) hx hb hts iwX10 hown hK hP 7 rfl rfl 12 (by decide) (hts _ mw_1188) (fun _ h9 => h9) rfl dX10_about_71 ?_
    refine lv_aload_n hx hb dX10_about_74 rfl (lv_at hl 0 rfl) ?_
    refine va_get (D := (dC, dI)) (ci := 10) (v := .int 0) (C := RX10) (T := TX10) (N := 67) hx hb hts iwX10 hown hK hP 7 rfl rfl 42 (by decide) (hts _ mw_1218) (fun _ h9 => h9) rfl dX10_about_75 ?_
    refine x_iald (k := 0) (v := 0) hx hb hK hP 1 1 rfl rfl (by decide) (by decide) (by decide) rfl dX10_about_78 ?_
    refine W.widen (k := 0) (n := 0) (Nat.le_of_ble_eq_true rfl) (Nat.le_of_ble_eq_true rfl) ?_
    exact W.iret (v := 0) hx hb hr (fun t ht hW => ⟨⟨0, (), rfl, (by first | decide | exact (if_pos (by omega)).symm | exact (if_neg (by omega)).symm), trivial⟩, hS.F ht⟩) hS.2.2 dX10_about_79
  by_cases h_3 : p0 = 2
  · subst h_3
    refine lv_tableIn (tgt := 80) (off := 79) hx hb dX10_about_1 (by decide) (by decide) (by decide) (by decide) ?_
    refine lv_aload_n hx hb dX10_about_80 rfl (lv_at hl 0 rfl) ?_
    refine va_get (D := (dC, dI)) (ci := 10) (v := .ref a3) (C := RX10) (T := TX10) (N := 67) hx hb hts iwX10 hown hK hP 7 rfl rfl 13 (by decide) (hts _ mw_1189) (fun _ h9 => h9) rfl dX10_about_81 ?_
    refine lv_aload_n hx hb dX10_about_84 rfl (lv_at hl 0 rfl) ?_
    refine va_get (D := (dC, dI)) (ci := 10) (v := .int 0) (C := RX10) (T := TX10) (N := 67) hx hb hts iwX10 hown hK hP 7 rfl rfl 42 (by decide) (hts _ mw_1218) (fun _ h9 => h9) rfl dX10_about_85 ?_
    refine x_iald (k := 0) (v := 0) hx hb hK hP 2 2 rfl rfl (by decide) (by decide) (by decide) rfl dX10_about_88 ?_
    refine W.widen (k := 0) (n := 0) (Nat.le_of_ble_eq_true rfl) (Nat.le_of_ble_eq_true rfl) ?_
    exact W.iret (v := 0) hx hb hr (fun t ht hW => ⟨⟨0, (), rfl, (by first | decide | exact (if_pos (by omega)).symm | exact (if_neg (by omega)).symm), trivial⟩, hS.F ht⟩) hS.2.2 dX10_about_89
  by_cases h_4 : p0 = 3
  · subst h_4
    refine lv_tableIn (tgt := 90) (off := 89) hx hb dX10_about_1 (by decide) (by decide) (by decide) (by decide) ?_
    refine lv_aload_n hx hb dX10_about_90 rfl (lv_at hl 0 rfl) ?_
    refine va_get (D := (dC, dI)) (ci := 10) (v := .ref a4) (C := RX10) (T := TX10) (N := 67) hx hb hts iwX10 hown hK hP 7 rfl rfl 14 (by decide) (hts _ mw_1190) (fun _ h9 => h9) rfl dX10_about_91 ?_
    refine lv_aload_n hx hb dX10_about_94 rfl (lv_at hl 0 rfl) ?_
    refine va_get (D := (dC, dI)) (ci := 10) (v := .int 0) (C := RX10) (T := TX10) (N := 67) hx hb hts iwX10 hown hK hP 7 rfl rfl 42 (by decide) (hts _ mw_1218) (fun _ h9 => h9) rfl dX10_about_95 ?_
    refine x_iald (k := 0) (v := 0) hx hb hK hP 3 3 rfl rfl (by decide) (by decide) (by decide) rfl dX10_about_98 ?_
    refine W.widen (k := 0) (n := 0) (Nat.le_of_ble_eq_true rfl) (Nat.le_of_ble_eq_true rfl) ?_
    exact W.iret (v := 0) hx hb hr (fun t ht hW => ⟨⟨0, (), rfl, (by first | decide | exact (if_pos (by omega)).symm | exact (if_neg (by omega)).symm), trivial⟩, hS.F ht⟩) hS.2.2 dX10_about_99
  by_cases h_5 : p0 = 4
  · subst h_5
    refine lv_tableIn (tgt := 100) (off := 99) hx hb dX10_about_1 (by decide) (by decide) (by decide) (by decide) ?_
    refine lv_aload_n hx hb dX10_about_100 rfl (lv_at hl 0 rfl) ?_
    refine va_get (D := (dC, dI)) (ci := 10) (v := .ref a5) (C := RX10) (T := TX10) (N := 67) hx hb hts iwX10 hown hK hP 7 rfl rfl 16 (by decide) (hts _ mw_1192) (fun _ h9 => h9) rfl dX10_about_101 ?_
    refine lv_aload_n hx hb dX10_about_104 rfl (lv_at hl 0 rfl) ?_
    refine va_get (D := (dC, dI)) (ci := 10) (v := .int 0) (C := RX10) (T := TX10) (N := 67) hx hb hts iwX10 hown hK hP 7 rfl rfl 42 (by decide) (hts _ mw_1218) (fun _ h9 => h9) rfl dX10_about_105 ?_
    refine x_iald (k := 0) (v := 0) hx hb hK hP 4 4 rfl rfl (by decide) (by decide) (by decide) rfl dX10_about_108 ?_
    refine W.widen (k := 0) (n := 0) (Nat.le_of_ble_eq_true rfl) (Nat.le_of_ble_eq_true rfl) ?_
    exact W.iret (v := 0) hx hb hr (fun t ht hW => ⟨⟨0, (), rfl, (by first | decide | exact (if_pos (by omega)).symm | exact (if_neg (by omega)).symm), trivial⟩, hS.F ht⟩) hS.2.2 dX10_about_109
  by_cases h_6 : p0 = 5
  · subst h_6
    refine lv_tableIn (tgt := 110) (off := 109) hx hb dX10_about_1 (by decide) (by decide) (by decide) (by decide) ?_
    refine lv_aload_n hx hb dX10_about_110 rfl (lv_at hl 0 rfl) ?_
    have hPc := hP.sub (ws' := [(a6, .inl (k5, 2, .inl (fun _ => 0))), (a0, .inr (10, [.ref a8, .ref a9, .int 0, .int 0, .int 0, .int (-1), .int 0, .int 0, .int 0, .int 0, .long 0, .ref a1, .ref a2, .ref a3, .ref a4, .ref a10, .ref a5, .ref a6, .ref a11, .ref a12, .ref a7, .ref a13, .ref a14, .ref a15, .ref a16, .ref a17, .ref a18, .ref a19, .ref a20, .ref a21, .ref a22, .ref a23, .ref a24, .ref a25, .ref a26, .ref a27, .ref a28, .ref a29, .ref a30, .ref a31, .ref a32, .ref a33, .int 0, .int 0, .int 0, .int 0, .int 0, .ref a34, .ref a35, .ref a36, .ref a37, .ref a38, .ref a39, .ref a40, .ref a41, .ref a42, .ref a43, .ref a44, .int 0, .int 0, .ref a45, .ref a46, .ref a47, .ref a48, .ref a49, .ref a50, .ref a51]))]) [5, 7] rfl
    have hDc := hD.sub (ws' := [(a6, .inl (k5, 2, .inl (fun _ => 0))), (a0, .inr (10, [.ref a8, .ref a9, .int 0, .int 0, .int 0, .int (-1), .int 0, .int 0, .int 0, .int 0, .long 0, .ref a1, .ref a2, .ref a3, .ref a4, .ref a10, .ref a5, .ref a6, .ref a11, .ref a12, .ref a7, .ref a13, .ref a14, .ref a15, .ref a16, .ref a17, .ref a18, .ref a19, .ref a20, .ref a21, .ref a22, .ref a23, .ref a24, .ref a25, .ref a26, .ref a27, .ref a28, .ref a29, .ref a30, .ref a31, .ref a32, .ref a33, .int 0, .int 0, .int 0, .int 0, .int 0, .ref a34, .ref a35, .ref a36, .ref a37, .ref a38, .ref a39, .ref a40, .ref a41, .ref a42, .ref a43, .ref a44, .int 0, .int 0, .ref a45, .ref a46, .ref a47, .ref a48, .ref a49, .ref a50, .ref a51]))]) [5, 7] (by decide) rfl
    have hKc := hK.sub (tys' := [(k5, .int)]) [5] rfl
    have hFc := va_free (wc := [(a6, .inl (k5, 2, .inl (fun _ => 0))), (a0, .inr (10, [.ref a8, .ref a9, .int 0, .int 0, .int 0, .int (-1), .int 0, .int 0, .int 0, .int 0, .long 0, .ref a1, .ref a2, .ref a3, .ref a4, .ref a10, .ref a5, .ref a6, .ref a11, .ref a12, .ref a7, .ref a13, .ref a14, .ref a15, .ref a16, .ref a17, .ref a18, .ref a19, .ref a20, .ref a21, .ref a22, .ref a23, .ref a24, .ref a25, .ref a26, .ref a27, .ref a28, .ref a29, .ref a30, .ref a31, .ref a32, .ref a33, .int 0, .int 0, .int 0, .int 0, .int 0, .ref a34, .ref a35, .ref a36, .ref a37, .ref a38, .ref a39, .ref a40, .ref a41, .ref a42, .ref a43, .ref a44, .int 0, .int 0, .ref a45, .ref a46, .ref a47, .ref a48, .ref a49, .ref a50, .ref a51]))]) hD hS hA [5, 7] rfl
    refine va_calli (va_runV (As := []) (rest := []) ⟨hx, hb, hml, hown, hts⟩ (zX10_deedMany l dC dI adK adV H.size a0 a6 k5 a8 a9 a1 a2 a3 a4 a10 a5 a11 a12 a7 a13 a14 a15 a16 a17 a18 a19 a20 a21 a22 a23 a24 a25 a26 a27 a28 a29 a30 a31 a32 a33 a34 a35 a36 a37 a38 a39 a40 a41 a42 a43 a44 a45 a46 a47 a48 a49 a50 a51) (cwV 0 hts (tb_V mw_1164 mw_1166 mw_51 mw_115 mw_1167) rfl rfl rfl (by decide +kernel) ⟨Nat.le_of_ble_eq_true rfl, Nat.le_of_ble_eq_true rfl⟩) ⟨XB, va_recv hKc hPc (ci := 10) (q0 := 1) rfl rfl, XQ (av := [.ref a0]) hPc hKc hDc hC hS hFc⟩ rfl rfl hl.1 rfl (lv_room (Nat.le_of_ble_eq_true rfl)) dX10_about_111 ⟨Nat.le_of_ble_eq_true rfl, Nat.le_of_ble_eq_true rfl⟩) hS (fun q _ h => hFc q h) hFc (fun r_7 u_9 t H1 locs ht hvm hw hB hz1 hk1 hS => ?_)
    try dsimp only at hw
    obtain ⟨hP1, hK1, hD1⟩ := hB
    rw [ht] at hP1
    have hK1 := va_K.moved hvm.symm hK1
    obtain ⟨hP, hD⟩ := va_join (wr := [(a1, .inl (k0, 2, .inl (fun _ => 0))), (a2, .inl (k1, 2, .inl (fun _ => 0))), (a3, .inl (k2, 2, .inl (fun _ => 0))), (a4, .inl (k3, 2, .inl (fun _ => 0))), (a5, .inl (k4, 2, .inl (fun _ => 0))), (a7, .inl (k6, 2, .inl (fun _ => 0))), (a12, .inl (k7, 2, .inl (fun _ => 0)))]) (w1 := [(a6, .inl (k5, 2, .inl (fun _ => 0))), (a0, .inr (10, [.ref a8, .ref a9, .int 0, .int 0, .int 0, .int (-1), .int 0, .int 0, .int 0, .int 0, .long 0, .ref a1, .ref a2, .ref a3, .ref a4, .ref a10, .ref a5, .ref a6, .ref a11, .ref a12, .ref a7, .ref a13, .ref a14, .ref a15, .ref a16, .ref a17, .ref a18, .ref a19, .ref a20, .ref a21, .ref a22, .ref a23, .ref a24, .ref a25, .ref a26, .ref a27, .ref a28, .ref a29, .ref a30, .ref a31, .ref a32, .ref a33, .int 0, .int 0, .int 0, .int 0, .int 0, .ref a34, .ref a35, .ref a36, .ref a37, .ref a38, .ref a39, .ref a40, .ref a41, .ref a42, .ref a43, .ref a44, .int 0, .int 0, .ref a45, .ref a46, .ref a47, .ref a48, .ref a49, .ref a50, .ref a51]))]) hP hD [5, 7] [0, 1, 2, 3, 4, 6, 8] rfl rfl (by decide) (by decide) hk1 hFc hP1 hD1
    have hK := (hK.sub (tys' := [(k0, .int), (k1, .int), (k2, .int), (k3, .int), (k4, .int), (k6, .int), (k7, .int)]) [0, 1, 2, 3, 4, 6, 7] rfl).app hK1
    generalize H1 = H at hP hS ⊢
    have hP : va_P (dC, dI) CL [(a1, .inl (k0, 2, .inl (fun _ => 0))), (a2, .inl (k1, 2, .inl (fun _ => 0))), (a3, .inl (k2, 2, .inl (fun _ => 0))), (a4, .inl (k3, 2, .inl (fun _ => 0))), (a5, .inl (k4, 2, .inl (fun _ => 0))), (a7, .inl (k6, 2, .inl (fun _ => 0))), (a12, .inl (k7, 2, .inl (fun _ => 0))), (a6, .inl (k5, 2, .inl (fun _ => 0))), (a0, .inr (10, [.ref a8, .ref a9, .int 0, .int 0, .int 0, .int (-1), .int 0, .int 0, .int 0, .int 0, .long 0, .ref a1, .ref a2, .ref a3, .ref a4, .ref a10, .ref a5, .ref a6, .ref a11, .ref a12, .ref a7, .ref a13, .ref a14, .ref a15, .ref a16, .ref a17, .ref a18, .ref a19, .ref a20, .ref a21, .ref a22, .ref a23, .ref a24, .ref a25, .ref a26, .ref a27, .ref a28, .ref a29, .ref a30, .ref a31, .ref a32, .ref a33, .int 0, .int 0, .int 0, .int 0, .int 0, .ref a34, .ref a35, .ref a36, .ref a37, .ref a38, .ref a39, .ref a40, .ref a41, .ref a42, .ref a43, .ref a44, .int 0, .int 0, .ref a45, .ref a46, .ref a47, .ref a48, .ref a49, .ref a50, .ref a51]))] H := hP
    have hD : va_D A [(a1, .inl (k0, 2, .inl (fun _ => 0))), (a2, .inl (k1, 2, .inl (fun _ => 0))), (a3, .inl (k2, 2, .inl (fun _ => 0))), (a4, .inl (k3, 2, .inl (fun _ => 0))), (a5, .inl (k4, 2, .inl (fun _ => 0))), (a7, .inl (k6, 2, .inl (fun _ => 0))), (a12, .inl (k7, 2, .inl (fun _ => 0))), (a6, .inl (k5, 2, .inl (fun _ => 0))), (a0, .inr (10, [.ref a8, .ref a9, .int 0, .int 0, .int 0, .int (-1), .int 0, .int 0, .int 0, .int 0, .long 0, .ref a1, .ref a2, .ref a3, .ref a4, .ref a10, .ref a5, .ref a6, .ref a11, .ref a12, .ref a7, .ref a13, .ref a14, .ref a15, .ref a16, .ref a17, .ref a18, .ref a19, .ref a20, .ref a21, .ref a22, .ref a23, .ref a24, .ref a25, .ref a26, .ref a27, .ref a28, .ref a29, .ref a30, .ref a31, .ref a32, .ref a33, .int 0, .int 0, .int 0, .int 0, .int 0, .ref a34, .ref a35, .ref a36, .ref a37, .ref a38, .ref a39, .ref a40, .ref a41, .ref a42, .ref a43, .ref a44, .int 0, .int 0, .ref a45, .ref a46, .ref a47, .ref a48, .ref a49, .ref a50, .ref a51]))] := hD
    have hK : va_K (dC, dI) CL [(k0, .int), (k1, .int), (k2, .int), (k3, .int), (k4, .int), (k6, .int), (k7, .int), (k5, .int)] s := hK
    subst hw
    refine W.widen (k := 0) (n := 0) (Nat.le_of_ble_eq_true rfl) (Nat.le_of_ble_eq_true rfl) ?_
    exact W.iret (v := 0) hx hb hr (fun t ht hW => ⟨⟨0, (), rfl, (by first | decide | exact (if_pos (by omega)).symm | exact (if_neg (by omega)).symm), trivial⟩, hS.F ht⟩) hS.2.2 dX10_about_114
  by_cases h_8 : p0 = 6
  · subst h_8
    refine lv_tableIn (tgt := 115) (off := 114) hx hb dX10_about_1 (by decide) (by decide) (by decide) (by decide) ?_
    refine lv_aload_n hx hb dX10_about_115 rfl (lv_at hl 0 rfl) ?_
    have hPc := hP.sub (ws' := [(a0, .inr (10, [.ref a8, .ref a9, .int 0, .int 0, .int 0, .int (-1), .int 0, .int 0, .int 0, .int 0, .long 0, .ref a1, .ref a2, .ref a3, .ref a4, .ref a10, .ref a5, .ref a6, .ref a11, .ref a12, .ref a7, .ref a13, .ref a14, .ref a15, .ref a16, .ref a17, .ref a18, .ref a19, .ref a20, .ref a21, .ref a22, .ref a23, .ref a24, .ref a25, .ref a26, .ref a27, .ref a28, .ref a29, .ref a30, .ref a31, .ref a32, .ref a33, .int 0, .int 0, .int 0, .int 0, .int 0, .ref a34, .ref a35, .ref a36, .ref a37, .ref a38, .ref a39, .ref a40, .ref a41, .ref a42, .ref a43, .ref a44, .int 0, .int 0, .ref a45, .ref a46, .ref a47, .ref a48, .ref a49, .ref a50, .ref a51])), (a12, .inl (k7, 2, .inl (fun _ => 0)))]) [7, 8] rfl
    have hDc := hD.sub (ws' := [(a0, .inr (10, [.ref a8, .ref a9, .int 0, .int 0, .int 0, .int (-1), .int 0, .int 0, .int 0, .int 0, .long 0, .ref a1, .ref a2, .ref a3, .ref a4, .ref a10, .ref a5, .ref a6, .ref a11, .ref a12, .ref a7, .ref a13, .ref a14, .ref a15, .ref a16, .ref a17, .ref a18, .ref a19, .ref a20, .ref a21, .ref a22, .ref a23, .ref a24, .ref a25, .ref a26, .ref a27, .ref a28, .ref a29, .ref a30, .ref a31, .ref a32, .ref a33, .int 0, .int 0, .int 0, .int 0, .int 0, .ref a34, .ref a35, .ref a36, .ref a37, .ref a38, .ref a39, .ref a40, .ref a41, .ref a42, .ref a43, .ref a44, .int 0, .int 0, .ref a45, .ref a46, .ref a47, .ref a48, .ref a49, .ref a50, .ref a51])), (a12, .inl (k7, 2, .inl (fun _ => 0)))]) [7, 8] (by decide) rfl
    have hKc := hK.sub (tys' := [(k7, .int)]) [7] rfl
    have hFc := va_free (wc := [(a0, .inr (10, [.ref a8, .ref a9, .int 0, .int 0, .int 0, .int (-1), .int 0, .int 0, .int 0, .int 0, .long 0, .ref a1, .ref a2, .ref a3, .ref a4, .ref a10, .ref a5, .ref a6, .ref a11, .ref a12, .ref a7, .ref a13, .ref a14, .ref a15, .ref a16, .ref a17, .ref a18, .ref a19, .ref a20, .ref a21, .ref a22, .ref a23, .ref a24, .ref a25, .ref a26, .ref a27, .ref a28, .ref a29, .ref a30, .ref a31, .ref a32, .ref a33, .int 0, .int 0, .int 0, .int 0, .int 0, .ref a34, .ref a35, .ref a36, .ref a37, .ref a38, .ref a39, .ref a40, .ref a41, .ref a42, .ref a43, .ref a44, .int 0, .int 0, .ref a45, .ref a46, .ref a47, .ref a48, .ref a49, .ref a50, .ref a51])), (a12, .inl (k7, 2, .inl (fun _ => 0)))]) hD hS hA [7, 8] rfl
    refine va_calli (va_runV (As := []) (rest := []) ⟨hx, hb, hml, hown, hts⟩ (zX10_witnessMany l dC dI adK adV H.size a0 a8 a9 a1 a2 a3 a4 a10 a5 a6 a11 a12 a7 a13 a14 a15 a16 a17 a18 a19 a20 a21 a22 a23 a24 a25 a26 a27 a28 a29 a30 a31 a32 a33 a34 a35 a36 a37 a38 a39 a40 a41 a42 a43 a44 a45 a46 a47 a48 a49 a50 a51 k7) (cwV 0 hts (tb_V mw_1115 mw_1117 mw_44 mw_115 mw_1118) rfl rfl rfl (by decide +kernel) ⟨Nat.le_of_ble_eq_true rfl, Nat.le_of_ble_eq_true rfl⟩) ⟨XB, va_recv hKc hPc (ci := 10) (q0 := 0) rfl rfl, XQ (av := [.ref a0]) hPc hKc hDc hC hS hFc⟩ rfl rfl hl.1 rfl (lv_room (Nat.le_of_ble_eq_true rfl)) dX10_about_116 ⟨Nat.le_of_ble_eq_true rfl, Nat.le_of_ble_eq_true rfl⟩) hS (fun q _ h => hFc q h) hFc (fun r_9 u_9 t H1 locs ht hvm hw hB hz1 hk1 hS => ?_)
    try dsimp only at hw
    obtain ⟨hP1, hK1, hD1⟩ := hB
    rw [ht] at hP1
    have hK1 := va_K.moved hvm.symm hK1
    obtain ⟨hP, hD⟩ := va_join (wr := [(a1, .inl (k0, 2, .inl (fun _ => 0))), (a2, .inl (k1, 2, .inl (fun _ => 0))), (a3, .inl (k2, 2, .inl (fun _ => 0))), (a4, .inl (k3, 2, .inl (fun _ => 0))), (a5, .inl (k4, 2, .inl (fun _ => 0))), (a6, .inl (k5, 2, .inl (fun _ => 0))), (a7, .inl (k6, 2, .inl (fun _ => 0)))]) (w1 := [(a0, .inr (10, [.ref a8, .ref a9, .int 0, .int 0, .int 0, .int (-1), .int 0, .int 0, .int 0, .int 0, .long 0, .ref a1, .ref a2, .ref a3, .ref a4, .ref a10, .ref a5, .ref a6, .ref a11, .ref a12, .ref a7, .ref a13, .ref a14, .ref a15, .ref a16, .ref a17, .ref a18, .ref a19, .ref a20, .ref a21, .ref a22, .ref a23, .ref a24, .ref a25, .ref a26, .ref a27, .ref a28, .ref a29, .ref a30, .ref a31, .ref a32, .ref a33, .int 0, .int 0, .int 0, .int 0, .int 0, .ref a34, .ref a35, .ref a36, .ref a37, .ref a38, .ref a39, .ref a40, .ref a41, .ref a42, .ref a43, .ref a44, .int 0, .int 0, .ref a45, .ref a46, .ref a47, .ref a48, .ref a49, .ref a50, .ref a51])), (a12, .inl (k7, 2, .inl (fun _ => 0)))]) hP hD [7, 8] [0, 1, 2, 3, 4, 5, 6] rfl rfl (by decide) (by decide) hk1 hFc hP1 hD1
    have hK := (hK.sub (tys' := [(k0, .int), (k1, .int), (k2, .int), (k3, .int), (k4, .int), (k5, .int), (k6, .int)]) [0, 1, 2, 3, 4, 5, 6] rfl).app hK1
    generalize H1 = H at hP hS ⊢
    have hP : va_P (dC, dI) CL [(a1, .inl (k0, 2, .inl (fun _ => 0))), (a2, .inl (k1, 2, .inl (fun _ => 0))), (a3, .inl (k2, 2, .inl (fun _ => 0))), (a4, .inl (k3, 2, .inl (fun _ => 0))), (a5, .inl (k4, 2, .inl (fun _ => 0))), (a6, .inl (k5, 2, .inl (fun _ => 0))), (a7, .inl (k6, 2, .inl (fun _ => 0))), (a0, .inr (10, [.ref a8, .ref a9, .int 0, .int 0, .int 0, .int (-1), .int 0, .int 0, .int 0, .int 0, .long 0, .ref a1, .ref a2, .ref a3, .ref a4, .ref a10, .ref a5, .ref a6, .ref a11, .ref a12, .ref a7, .ref a13, .ref a14, .ref a15, .ref a16, .ref a17, .ref a18, .ref a19, .ref a20, .ref a21, .ref a22, .ref a23, .ref a24, .ref a25, .ref a26, .ref a27, .ref a28, .ref a29, .ref a30, .ref a31, .ref a32, .ref a33, .int 0, .int 0, .int 0, .int 0, .int 0, .ref a34, .ref a35, .ref a36, .ref a37, .ref a38, .ref a39, .ref a40, .ref a41, .ref a42, .ref a43, .ref a44, .int 0, .int 0, .ref a45, .ref a46, .ref a47, .ref a48, .ref a49, .ref a50, .ref a51])), (a12, .inl (k7, 2, .inl (fun _ => 0)))] H := hP
    have hD : va_D A [(a1, .inl (k0, 2, .inl (fun _ => 0))), (a2, .inl (k1, 2, .inl (fun _ => 0))), (a3, .inl (k2, 2, .inl (fun _ => 0))), (a4, .inl (k3, 2, .inl (fun _ => 0))), (a5, .inl (k4, 2, .inl (fun _ => 0))), (a6, .inl (k5, 2, .inl (fun _ => 0))), (a7, .inl (k6, 2, .inl (fun _ => 0))), (a0, .inr (10, [.ref a8, .ref a9, .int 0, .int 0, .int 0, .int (-1), .int 0, .int 0, .int 0, .int 0, .long 0, .ref a1, .ref a2, .ref a3, .ref a4, .ref a10, .ref a5, .ref a6, .ref a11, .ref a12, .ref a7, .ref a13, .ref a14, .ref a15, .ref a16, .ref a17, .ref a18, .ref a19, .ref a20, .ref a21, .ref a22, .ref a23, .ref a24, .ref a25, .ref a26, .ref a27, .ref a28, .ref a29, .ref a30, .ref a31, .ref a32, .ref a33, .int 0, .int 0, .int 0, .int 0, .int 0, .ref a34, .ref a35, .ref a36, .ref a37, .ref a38, .ref a39, .ref a40, .ref a41, .ref a42, .ref a43, .ref a44, .int 0, .int 0, .ref a45, .ref a46, .ref a47, .ref a48, .ref a49, .ref a50, .ref a51])), (a12, .inl (k7, 2, .inl (fun _ => 0)))] := hD
    have hK : va_K (dC, dI) CL [(k0, .int), (k1, .int), (k2, .int), (k3, .int), (k4, .int), (k5, .int), (k6, .int), (k7, .int)] s := hK
    subst hw
    refine W.widen (k := 0) (n := 0) (Nat.le_of_ble_eq_true rfl) (Nat.le_of_ble_eq_true rfl) ?_
    exact W.iret (v := 0) hx hb hr (fun t ht hW => ⟨⟨0, (), rfl, (by first | decide | exact (if_pos (by omega)).symm | exact (if_neg (by omega)).symm), trivial⟩, hS.F ht⟩) hS.2.2 dX10_about_119
  by_cases h_10 : p0 = 7
  · subst h_10
    refine lv_tableIn (tgt := 120) (off := 119) hx hb dX10_about_1 (by decide) (by decide) (by decide) (by decide) ?_
    refine lv_aload_n hx hb dX10_about_120 rfl (lv_at hl 0 rfl) ?_
    refine va_get (D := (dC, dI)) (ci := 10) (v := .int 0) (C := RX10) (T := TX10) (N := 67) hx hb hts iwX10 hown hK hP 7 rfl rfl 58 (by decide) (hts _ mw_1234) (fun _ h9 => h9) rfl dX10_about_121 ?_
    refine W.widen (k := 0) (n := 0) (Nat.le_of_ble_eq_true rfl) (Nat.le_of_ble_eq_true rfl) ?_
    exact W.iret (v := 0) hx hb hr (fun t ht hW => ⟨⟨0, (), rfl, (by first | decide | exact (if_pos (by omega)).symm | exact (if_neg (by omega)).symm), trivial⟩, hS.F ht⟩) hS.2.2 dX10_about_124
  by_cases h_11 : p0 = 8
  · subst h_11
    refine lv_tableIn (tgt := 125) (off := 124) hx hb dX10_about_1 (by decide) (by decide) (by decide) (by decide) ?_
    refine lv_aload_n hx hb dX10_about_125 rfl (lv_at hl 0 rfl) ?_
    refine va_get (D := (dC, dI)) (ci := 10) (v := .int 0) (C := RX10) (T := TX10) (N := 67) hx hb hts iwX10 hown hK hP 7 rfl rfl 59 (by decide) (hts _ mw_1235) (fun _ h9 => h9) rfl dX10_about_126 ?_
    refine W.widen (k := 0) (n := 0) (Nat.le_of_ble_eq_true rfl) (Nat.le_of_ble_eq_true rfl) ?_
    exact W.iret (v := 0) hx hb hr (fun t ht hW => ⟨⟨0, (), rfl, (by first | decide | exact (if_pos (by omega)).symm | exact (if_neg (by omega)).symm), trivial⟩, hS.F ht⟩) hS.2.2 dX10_about_129
  by_cases h_12 : p0 = 9
  · subst h_12
    refine lv_tableIn (tgt := 130) (off := 129) hx hb dX10_about_1 (by decide) (by decide) (by decide) (by decide) ?_
    refine lv_aload_n hx hb dX10_about_130 rfl (lv_at hl 0 rfl) ?_
    refine va_get (D := (dC, dI)) (ci := 10) (v := .int 0) (C := RX10) (T := TX10) (N := 67) hx hb hts iwX10 hown hK hP 7 rfl rfl 2 (by decide) (hts _ mw_1178) (fun _ h9 => h9) rfl dX10_about_131 ?_
    refine W.widen (k := 0) (n := 0) (Nat.le_of_ble_eq_true rfl) (Nat.le_of_ble_eq_true rfl) ?_
    exact W.iret (v := 0) hx hb hr (fun t ht hW => ⟨⟨0, (), rfl, (by first | decide | exact (if_pos (by omega)).symm | exact (if_neg (by omega)).symm), trivial⟩, hS.F ht⟩) hS.2.2 dX10_about_134
  by_cases h_13 : p0 = 10
  · subst h_13
    refine lv_tableIn (tgt := 135) (off := 134) hx hb dX10_about_1 (by decide) (by decide) (by decide) (by decide) ?_
    refine lv_aload_n hx hb dX10_about_135 rfl (lv_at hl 0 rfl) ?_
    refine va_get (D := (dC, dI)) (ci := 10) (v := .ref a7) (C := RX10) (T := TX10) (N := 67) hx hb hts iwX10 hown hK hP 7 rfl rfl 20 (by decide) (hts _ mw_1196) (fun _ h9 => h9) rfl dX10_about_136 ?_
    refine lv_aload_n hx hb dX10_about_139 rfl (lv_at hl 0 rfl) ?_
    refine va_get (D := (dC, dI)) (ci := 10) (v := .int 0) (C := RX10) (T := TX10) (N := 67) hx hb hts iwX10 hown hK hP 7 rfl rfl 42 (by decide) (hts _ mw_1218) (fun _ h9 => h9) rfl dX10_about_140 ?_
    refine x_iald (k := 0) (v := 0) hx hb hK hP 6 6 rfl rfl (by decide) (by decide) (by decide) rfl dX10_about_143 ?_
    refine W.widen (k := 0) (n := 0) (Nat.le_of_ble_eq_true rfl) (Nat.le_of_ble_eq_true rfl) ?_
    exact W.iret (v := 0) hx hb hr (fun t ht hW => ⟨⟨0, (), rfl, (by first | decide | exact (if_pos (by omega)).symm | exact (if_neg (by omega)).symm), trivial⟩, hS.F ht⟩) hS.2.2 dX10_about_144
  refine lv_tableOut (tgt := 145) hx hb dX10_about_1 (by have kh_1 := ne_i h_1; have kh_2 := ne_i h_2; have kh_3 := ne_i h_3; have kh_4 := ne_i h_4; have kh_5 := ne_i h_5; have kh_6 := ne_i h_6; have kh_8 := ne_i h_8; have kh_10 := ne_i h_10; have kh_11 := ne_i h_11; have kh_12 := ne_i h_12; have kh_13 := ne_i h_13; simp only [xi_0, xi_1, xi_2, xi_3, xi_4, xi_5, xi_6, xi_7, xi_8, xi_9, xi_10] at kh_1 kh_2 kh_3 kh_4 kh_5 kh_6 kh_8 kh_10 kh_11 kh_12 kh_13; omega) (by decide) ?_
  refine lv_iconst (v := (-1)) hx hb dX10_about_145 (by decide) ?_
  refine W.widen (k := 0) (n := 0) (Nat.le_of_ble_eq_true rfl) (Nat.le_of_ble_eq_true rfl) ?_
  exact W.iret (v := (-1)) hx hb hr (fun t ht hW => ⟨⟨(-1), (), rfl, (by first | decide | exact (if_pos (by have kh_1 := ne_i h_1; have kh_2 := ne_i h_2; have kh_3 := ne_i h_3; have kh_4 := ne_i h_4; have kh_5 := ne_i h_5; have kh_6 := ne_i h_6; have kh_8 := ne_i h_8; have kh_10 := ne_i h_10; have kh_11 := ne_i h_11; have kh_12 := ne_i h_12; have kh_13 := ne_i h_13; simp only [xi_0, xi_1, xi_2, xi_3, xi_4, xi_5, xi_6, xi_7, xi_8, xi_9, xi_10] at kh_1 kh_2 kh_3 kh_4 kh_5 kh_6 kh_8 kh_10 kh_11 kh_12 kh_13; omega)).symm | exact (if_neg (by have kh_1 := ne_i h_1; have kh_2 := ne_i h_2; have kh_3 := ne_i h_3; have kh_4 := ne_i h_4; have kh_5 := ne_i h_5; have kh_6 := ne_i h_6; have kh_8 := ne_i h_8; have kh_10 := ne_i h_10; have kh_11 := ne_i h_11; have kh_12 := ne_i h_12; have kh_13 := ne_i h_13; simp only [xi_0, xi_1, xi_2, xi_3, xi_4, xi_5, xi_6, xi_7, xi_8, xi_9, xi_10] at kh_1 kh_2 kh_3 kh_4 kh_5 kh_6 kh_8 kh_10 kh_11 kh_12 kh_13; omega)).symm), trivial⟩, hS.F ht⟩) hS.2.2 dX10_about_146
