set_option maxHeartbeats 4000000 in
set_option maxRecDepth 100000 in
theorem zX9_list (l : Launch) (dC : Nat → ClassId) (dI : Nat → Nat → Nat) (adK adV : Nat → Nat) (sz : Nat) (a0 : Nat) (p0 : Int32) (p1 : Int32) (a1 : Nat) (a2 : Nat) (a3 : Nat) (a4 : Nat) (a5 : Nat) (a6 : Nat) (a7 : Nat) (a8 : Nat) (a9 : Nat) (a10 : Nat) (a11 : Nat) (a12 : Nat) (a13 : Nat) (a14 : Nat) (a15 : Nat) (a16 : Nat) (a17 : Nat) (a18 : Nat) (a19 : Nat) (a20 : Nat) (a21 : Nat) (a22 : Nat) (a23 : Nat) (a24 : Nat) (a25 : Nat) (a26 : Nat) : Met l yX9_list (Cond.code yX9_list cX9_list 4 (some .int) :: TB) ({ frames := 3, cells := 0, slots := 0, locals := 153 }) (XP (dC, dI) adK adV [.ref a0, .int p0, .int p1] sz [(a0, .inr (9, [.ref a1, .int 0, .ref a2, .ref a3, .ref a4, .ref a5, .ref a6, .ref a7, .ref a8])), (a2, .inr (0, [.int 0, .int 0, .int 0, .int 0, .int 0, .int 0, .long 0, .ref a9, .ref a10, .ref a11, .ref a12, .ref a13, .ref a14, .ref a15])), (a11, .inr (5, [.ref a16, .int 0])), (a12, .inr (5, [.ref a17, .int 0])), (a5, .inr (2, [.ref a2, .ref a18, .ref a19, .ref a20, .ref a21, .int 0, .int 0, .ref a22, .ref a23, .long 0, .int 0, .int 0, .int 0, .int (-1)])), (a6, .inr (6, [.ref a5, .int 0, .ref a24, .ref a25, .ref a26]))] []) (va_Qi (fun (r : Int32) (_ : Unit) => r = res_list p0 p1) (fun _ _ => True) (va_A [(a0, .inr (9, [.ref a1, .int 0, .ref a2, .ref a3, .ref a4, .ref a5, .ref a6, .ref a7, .ref a8])), (a2, .inr (0, [.int 0, .int 0, .int 0, .int 0, .int 0, .int 0, .long 0, .ref a9, .ref a10, .ref a11, .ref a12, .ref a13, .ref a14, .ref a15])), (a11, .inr (5, [.ref a16, .int 0])), (a12, .inr (5, [.ref a17, .int 0])), (a5, .inr (2, [.ref a2, .ref a18, .ref a19, .ref a20, .ref a21, .int 0, .int 0, .ref a22, .ref a23, .long 0, .int 0, .int 0, .int 0, .int (-1)])), (a6, .inr (6, [.ref a5, .int 0, .ref a24, .ref a25, .ref a26]))] sz)) 0 0 (va_A [(a0, .inr (9, [.ref a1, .int 0, .ref a2, .ref a3, .ref a4, .ref a5, .ref a6, .ref a7, .ref a8])), (a2, .inr (0, [.int 0, .int 0, .int 0, .int 0, .int 0, .int 0, .long 0, .ref a9, .ref a10, .ref a11, .ref a12, .ref a13, .ref a14, .ref a15])), (a11, .inr (5, [.ref a16, .int 0])), (a12, .inr (5, [.ref a17, .int 0])), (a5, .inr (2, [.ref a2, .ref a18, .ref a19, .ref a20, .ref a21, .int 0, .int 0, .ref a22, .ref a23, .long 0, .int 0, .int 0, .int 0, .int (-1)])), (a6, .inr (6, [.ref a5, .int 0, .ref a24, .ref a25, .ref a26]))] sz) := by
  refine Met.ofW (cc := cX9_list) (maxL := 4) (ret := (some .int)) (by decide) rfl ?_
  intro p e s m args below meth c s₁ B hml hv
  obtain ⟨rfl, hsz, hP, hK, hD0, hC⟩ := hv
  have hx := B.exec
  have hb := B.bytes
  have hr := B.returns
  have hts0 := atoms_spec (ws := Cond.code yX9_list cX9_list 4 (some .int) :: TB) B.pre
  have hts : ∀ w ∈ TB, w.before _ s = true := fun w h => hts0 w (List.mem_cons_of_mem _ h)
  have hown : s.vm.findClass RX9 = some m.cls := findClass_of_methodNamed B.named
  have hlocks := B.notSynchronized
  subst hsz
  have hD := hD0.self (sz := s.heap.size)
  generalize hAe : va_A [(a0, .inr (9, [.ref a1, .int 0, .ref a2, .ref a3, .ref a4, .ref a5, .ref a6, .ref a7, .ref a8])), (a2, .inr (0, [.int 0, .int 0, .int 0, .int 0, .int 0, .int 0, .long 0, .ref a9, .ref a10, .ref a11, .ref a12, .ref a13, .ref a14, .ref a15])), (a11, .inr (5, [.ref a16, .int 0])), (a12, .inr (5, [.ref a17, .int 0])), (a5, .inr (2, [.ref a2, .ref a18, .ref a19, .ref a20, .ref a21, .int 0, .int 0, .ref a22, .ref a23, .long 0, .int 0, .int 0, .int 0, .int (-1)])), (a6, .inr (6, [.ref a5, .int 0, .ref a24, .ref a25, .ref a26]))] s.heap.size = A at hD hC ⊢
  have hA : ∀ q : Nat, s.heap.size ≤ q → A q := fun q h => by rw [← hAe]; exact Or.inr h
  have hl := lv_entry ([.ref a0, .int p0, .int p1]) (n := 4) (Nat.le_of_ble_eq_true rfl)
  rw [lg_entry_eq]
  generalize (lg_sl ([.ref a0, .int p0, .int p1]) ++ List.replicate (4 - (lg_sl ([.ref a0, .int p0, .int p1])).length) Slot.unset).toArray = ls at hl ⊢
  have hl : lv_has ls 4 [(0, .ref a0), (1, .int p0), (2, .int p1)] := hl
  have hP : va_P (dC, dI) CL [(a0, .inr (9, [.ref a1, .int 0, .ref a2, .ref a3, .ref a4, .ref a5, .ref a6, .ref a7, .ref a8])), (a2, .inr (0, [.int 0, .int 0, .int 0, .int 0, .int 0, .int 0, .long 0, .ref a9, .ref a10, .ref a11, .ref a12, .ref a13, .ref a14, .ref a15])), (a11, .inr (5, [.ref a16, .int 0])), (a12, .inr (5, [.ref a17, .int 0])), (a5, .inr (2, [.ref a2, .ref a18, .ref a19, .ref a20, .ref a21, .int 0, .int 0, .ref a22, .ref a23, .long 0, .int 0, .int 0, .int 0, .int (-1)])), (a6, .inr (6, [.ref a5, .int 0, .ref a24, .ref a25, .ref a26]))] s.heap := hP
  obtain ⟨H, hH⟩ : ∃ z, z = s.heap := ⟨_, rfl⟩
  rw [← hH] at hP ⊢
  have hS : va_S A s.heap H [] := by rw [hH]; exact va_S.rf
  refine lv_aload_n hx hb dX9_list_0 rfl (lv_at hl 0 rfl) ?_
  refine va_get (D := (dC, dI)) (ci := 9) (v := .ref a2) (C := RX9) (T := TX9) (N := 9) hx hb hts iwX9 hown hK hP 0 rfl rfl 2 (by decide) (hts _ mw_558) (fun _ h9 => h9) rfl dX9_list_1 ?_
  refine lv_iload_n hx hb dX9_list_4 rfl (lv_at hl 1 rfl) ?_
  have hPc := hP.sub (ws' := [(a2, .inr (0, [.int 0, .int 0, .int 0, .int 0, .int 0, .int 0, .long 0, .ref a9, .ref a10, .ref a11, .ref a12, .ref a13, .ref a14, .ref a15])), (a11, .inr (5, [.ref a16, .int 0]))]) [1, 2] rfl
  have hDc := hD.sub (ws' := [(a2, .inr (0, [.int 0, .int 0, .int 0, .int 0, .int 0, .int 0, .long 0, .ref a9, .ref a10, .ref a11, .ref a12, .ref a13, .ref a14, .ref a15])), (a11, .inr (5, [.ref a16, .int 0]))]) [1, 2] (by decide) rfl
  have hKc := hK.sub (tys' := []) [] rfl
  have hFc := va_free (wc := [(a2, .inr (0, [.int 0, .int 0, .int 0, .int 0, .int 0, .int 0, .long 0, .ref a9, .ref a10, .ref a11, .ref a12, .ref a13, .ref a14, .ref a15])), (a11, .inr (5, [.ref a16, .int 0]))]) hD hS hA [1, 2] rfl
  refine va_calli (va_runV (As := [.int p0]) (rest := []) ⟨hx, hb, hml, hown, hts⟩ (zX0_hasDeeds l dC dI adK adV H.size a2 p0 a9 a10 a11 a12 a13 a14 a15 a16) (cwV 1 hts (tb_V mw_1018 mw_1019 mw_1020 mw_100 mw_1021) rfl rfl rfl (by decide +kernel) ⟨Nat.le_of_ble_eq_true rfl, Nat.le_of_ble_eq_true rfl⟩) ⟨XB, va_recv hKc hPc (ci := 0) (q0 := 0) rfl rfl, XQ (av := [.ref a2, .int p0]) hPc hKc hDc hC hS hFc⟩ rfl rfl hl.1 rfl (lv_room (Nat.le_of_ble_eq_true rfl)) dX9_list_5 ⟨Nat.le_of_ble_eq_true rfl, Nat.le_of_ble_eq_true rfl⟩) hS (fun q _ h => hFc q h) hFc (fun r_1 u_9 t H1 locs ht hvm hw hB hz1 hk1 hS => ?_)
  try dsimp only at hw
  obtain ⟨hP1, hK1, hD1⟩ := hB
  rw [ht] at hP1
  have hK1 := va_K.moved hvm.symm hK1
  obtain ⟨hP, hD⟩ := va_join (wr := [(a0, .inr (9, [.ref a1, .int 0, .ref a2, .ref a3, .ref a4, .ref a5, .ref a6, .ref a7, .ref a8])), (a12, .inr (5, [.ref a17, .int 0])), (a5, .inr (2, [.ref a2, .ref a18, .ref a19, .ref a20, .ref a21, .int 0, .int 0, .ref a22, .ref a23, .long 0, .int 0, .int 0, .int 0, .int (-1)])), (a6, .inr (6, [.ref a5, .int 0, .ref a24, .ref a25, .ref a26]))]) (w1 := [(a2, .inr (0, [.int 0, .int 0, .int 0, .int 0, .int 0, .int 0, .long 0, .ref a9, .ref a10, .ref a11, .ref a12, .ref a13, .ref a14, .ref a15])), (a11, .inr (5, [.ref a16, .int 0]))]) hP hD [1, 2] [0, 3, 4, 5] rfl rfl (by decide) (by decide) hk1 hFc hP1 hD1
  have hK := (hK.sub (tys' := []) [] rfl).app hK1
  generalize H1 = H at hP hS ⊢
  have hP : va_P (dC, dI) CL [(a0, .inr (9, [.ref a1, .int 0, .ref a2, .ref a3, .ref a4, .ref a5, .ref a6, .ref a7, .ref a8])), (a12, .inr (5, [.ref a17, .int 0])), (a5, .inr (2, [.ref a2, .ref a18, .ref a19, .ref a20, .ref a21, .int 0, .int 0, .ref a22, .ref a23, .long 0, .int 0, .int 0, .int 0, .int (-1)])), (a6, .inr (6, [.ref a5, .int 0, .ref a24, .ref a25, .ref a26])), (a2, .inr (0, [.int 0, .int 0, .int 0, .int 0, .int 0, .int 0, .long 0, .ref a9, .ref a10, .ref a11, .ref a12, .ref a13, .ref a14, .ref a15])), (a11, .inr (5, [.ref a16, .int 0]))] H := hP
  have hD : va_D A [(a0, .inr (9, [.ref a1, .int 0, .ref a2, .ref a3, .ref a4, .ref a5, .ref a6, .ref a7, .ref a8])), (a12, .inr (5, [.ref a17, .int 0])), (a5, .inr (2, [.ref a2, .ref a18, .ref a19, .ref a20, .ref a21, .int 0, .int 0, .ref a22, .ref a23, .long 0, .int 0, .int 0, .int 0, .int (-1)])), (a6, .inr (6, [.ref a5, .int 0, .ref a24, .ref a25, .ref a26])), (a2, .inr (0, [.int 0, .int 0, .int 0, .int 0, .int 0, .int 0, .long 0, .ref a9, .ref a10, .ref a11, .ref a12, .ref a13, .ref a14, .ref a15])), (a11, .inr (5, [.ref a16, .int 0]))] := hD
  have hK : va_K (dC, dI) CL [] s := hK
  rcases hw with ⟨hw, h_2⟩ | ⟨hw, h_3, h_4⟩ | ⟨hw, h_5⟩
  · subst hw
    refine lv_if_ne (tgt := 13) hx hb dX9_list_8 (by decide) (fun h => (h (by decide)).elim) (fun _ => ?_)
    refine lv_iconst (v := (-1)) hx hb dX9_list_11 (by decide) ?_
    refine W.widen (k := 0) (n := 0) (Nat.le_of_ble_eq_true rfl) (Nat.le_of_ble_eq_true rfl) ?_
    exact W.iret (v := (-1)) hx hb hr (fun t ht hW => ⟨⟨(-1), (), rfl, (by first | decide | exact (if_pos (by have kh_2 := lt_i h_2; simp only [xi_0] at kh_2; omega)).symm | exact (if_neg (by have kh_2 := lt_i h_2; simp only [xi_0] at kh_2; omega)).symm), trivial⟩, hS.F ht⟩) hS.2.2 dX9_list_12
  · subst hw
    refine lv_if_ne (tgt := 13) hx hb dX9_list_8 (by decide) (fun h => (h (by decide)).elim) (fun _ => ?_)
    refine lv_iconst (v := (-1)) hx hb dX9_list_11 (by decide) ?_
    refine W.widen (k := 0) (n := 0) (Nat.le_of_ble_eq_true rfl) (Nat.le_of_ble_eq_true rfl) ?_
    exact W.iret (v := (-1)) hx hb hr (fun t ht hW => ⟨⟨(-1), (), rfl, (by first | decide | exact (if_pos (by have kh_3 := nlt_i h_3; have kh_4 := le_i h_4; simp only [xi_0, xi_1] at kh_3 kh_4; omega)).symm | exact (if_neg (by have kh_3 := nlt_i h_3; have kh_4 := le_i h_4; simp only [xi_0, xi_1] at kh_3 kh_4; omega)).symm), trivial⟩, hS.F ht⟩) hS.2.2 dX9_list_12
  · subst hw
    obtain rfl : p0 = 0 := Int32.toInt_inj.mp (by rw [xi_0]; have kh_5 := eq_i h_5; simp only [xi_0] at kh_5; omega)
    refine lv_if_ne (tgt := 13) hx hb dX9_list_8 (by decide) (fun _ => ?_) (fun h => absurd h (by decide))
    refine lv_aload_n hx hb dX9_list_13 rfl (lv_at hl 0 rfl) ?_
    refine va_get (D := (dC, dI)) (ci := 9) (v := .ref a6) (C := RX9) (T := TX9) (N := 9) hx hb hts iwX9 hown hK hP 0 rfl rfl 6 (by decide) (hts _ mw_562) (fun _ h9 => h9) rfl dX9_list_14 ?_
    refine lv_iload_n hx hb dX9_list_17 rfl (lv_at hl 1 rfl) ?_
    have hPc := hP.sub (ws' := [(a12, .inr (5, [.ref a17, .int 0])), (a5, .inr (2, [.ref a2, .ref a18, .ref a19, .ref a20, .ref a21, .int 0, .int 0, .ref a22, .ref a23, .long 0, .int 0, .int 0, .int 0, .int (-1)])), (a6, .inr (6, [.ref a5, .int 0, .ref a24, .ref a25, .ref a26])), (a2, .inr (0, [.int 0, .int 0, .int 0, .int 0, .int 0, .int 0, .long 0, .ref a9, .ref a10, .ref a11, .ref a12, .ref a13, .ref a14, .ref a15]))]) [1, 2, 3, 4] rfl
    have hDc := hD.sub (ws' := [(a12, .inr (5, [.ref a17, .int 0])), (a5, .inr (2, [.ref a2, .ref a18, .ref a19, .ref a20, .ref a21, .int 0, .int 0, .ref a22, .ref a23, .long 0, .int 0, .int 0, .int 0, .int (-1)])), (a6, .inr (6, [.ref a5, .int 0, .ref a24, .ref a25, .ref a26])), (a2, .inr (0, [.int 0, .int 0, .int 0, .int 0, .int 0, .int 0, .long 0, .ref a9, .ref a10, .ref a11, .ref a12, .ref a13, .ref a14, .ref a15]))]) [1, 2, 3, 4] (by decide) rfl
    have hKc := hK.sub (tys' := []) [] rfl
    have hFc := va_free (wc := [(a12, .inr (5, [.ref a17, .int 0])), (a5, .inr (2, [.ref a2, .ref a18, .ref a19, .ref a20, .ref a21, .int 0, .int 0, .ref a22, .ref a23, .long 0, .int 0, .int 0, .int 0, .int (-1)])), (a6, .inr (6, [.ref a5, .int 0, .ref a24, .ref a25, .ref a26])), (a2, .inr (0, [.int 0, .int 0, .int 0, .int 0, .int 0, .int 0, .long 0, .ref a9, .ref a10, .ref a11, .ref a12, .ref a13, .ref a14, .ref a15]))]) hD hS hA [1, 2, 3, 4] rfl
    refine va_calli (va_runV (As := [.int 0]) (rest := []) ⟨hx, hb, hml, hown, hts⟩ (zX6_cheapest l dC dI adK adV H.size a6 a12 a17 a5 a2 a18 a19 a20 a21 a22 a23 a24 a25 a26 a9 a10 a11 a13 a14 a15) (cwV 1 hts (tb_V mw_1056 mw_1057 mw_1058 mw_113 mw_1059) rfl rfl rfl (by decide +kernel) ⟨Nat.le_of_ble_eq_true rfl, Nat.le_of_ble_eq_true rfl⟩) ⟨XB, va_recv hKc hPc (ci := 6) (q0 := 2) rfl rfl, XQ (av := [.ref a6, .int 0]) hPc hKc hDc hC hS hFc⟩ rfl rfl hl.1 rfl (lv_room (Nat.le_of_ble_eq_true rfl)) dX9_list_18 ⟨Nat.le_of_ble_eq_true rfl, Nat.le_of_ble_eq_true rfl⟩) hS (fun q _ h => hFc q h) hFc (fun r_6 u_9 t H1 locs ht hvm hw hB hz1 hk1 hS => ?_)
    try dsimp only at hw
    obtain ⟨hP1, hK1, hD1⟩ := hB
    rw [ht] at hP1
    have hK1 := va_K.moved hvm.symm hK1
    obtain ⟨hP, hD⟩ := va_join (wr := [(a0, .inr (9, [.ref a1, .int 0, .ref a2, .ref a3, .ref a4, .ref a5, .ref a6, .ref a7, .ref a8])), (a11, .inr (5, [.ref a16, .int 0]))]) (w1 := [(a12, .inr (5, [.ref a17, .int 0])), (a5, .inr (2, [.ref a2, .ref a18, .ref a19, .ref a20, .ref a21, .int 0, .int 0, .ref a22, .ref a23, .long 0, .int 0, .int 0, .int 0, .int (-1)])), (a6, .inr (6, [.ref a5, .int 0, .ref a24, .ref a25, .ref a26])), (a2, .inr (0, [.int 0, .int 0, .int 0, .int 0, .int 0, .int 0, .long 0, .ref a9, .ref a10, .ref a11, .ref a12, .ref a13, .ref a14, .ref a15]))]) hP hD [1, 2, 3, 4] [0, 5] rfl rfl (by decide) (by decide) hk1 hFc hP1 hD1
    have hK := (hK.sub (tys' := []) [] rfl).app hK1
    generalize H1 = H at hP hS ⊢
    have hP : va_P (dC, dI) CL [(a0, .inr (9, [.ref a1, .int 0, .ref a2, .ref a3, .ref a4, .ref a5, .ref a6, .ref a7, .ref a8])), (a11, .inr (5, [.ref a16, .int 0])), (a12, .inr (5, [.ref a17, .int 0])), (a5, .inr (2, [.ref a2, .ref a18, .ref a19, .ref a20, .ref a21, .int 0, .int 0, .ref a22, .ref a23, .long 0, .int 0, .int 0, .int 0, .int (-1)])), (a6, .inr (6, [.ref a5, .int 0, .ref a24, .ref a25, .ref a26])), (a2, .inr (0, [.int 0, .int 0, .int 0, .int 0, .int 0, .int 0, .long 0, .ref a9, .ref a10, .ref a11, .ref a12, .ref a13, .ref a14, .ref a15]))] H := hP
    have hD : va_D A [(a0, .inr (9, [.ref a1, .int 0, .ref a2, .ref a3, .ref a4, .ref a5, .ref a6, .ref a7, .ref a8])), (a11, .inr (5, [.ref a16, .int 0])), (a12, .inr (5, [.ref a17, .int 0])), (a5, .inr (2, [.ref a2, .ref a18, .ref a19, .ref a20, .ref a21, .int 0, .int 0, .ref a22, .ref a23, .long 0, .int 0, .int 0, .int 0, .int (-1)])), (a6, .inr (6, [.ref a5, .int 0, .ref a24, .ref a25, .ref a26])), (a2, .inr (0, [.int 0, .int 0, .int 0, .int 0, .int 0, .int 0, .long 0, .ref a9, .ref a10, .ref a11, .ref a12, .ref a13, .ref a14, .ref a15]))] := hD
    have hK : va_K (dC, dI) CL [] s := hK
    subst hw
    refine lv_istore_n (lv' := [(3, .int 0), (0, .ref a0), (1, .int 0), (2, .int p1)]) hx hb dX9_list_21 rfl hl (by decide) rfl (fun ls hl => ?_)
    refine lv_iload_n hx hb dX9_list_22 rfl (lv_at hl 3 rfl) ?_
    refine lv_iload_n hx hb dX9_list_23 rfl (lv_at hl 0 rfl) ?_
    refine lv_aload_n hx hb dX9_list_24 rfl (lv_at hl 1 rfl) ?_
    refine va_get (D := (dC, dI)) (ci := 9) (v := .ref a6) (C := RX9) (T := TX9) (N := 9) hx hb hts iwX9 hown hK hP 0 rfl rfl 6 (by decide) (hts _ mw_562) (fun _ h9 => h9) rfl dX9_list_25 ?_
    refine lv_iload_n hx hb dX9_list_28 rfl (lv_at hl 0 rfl) ?_
    have hPc := hP.sub (ws' := [(a12, .inr (5, [.ref a17, .int 0])), (a5, .inr (2, [.ref a2, .ref a18, .ref a19, .ref a20, .ref a21, .int 0, .int 0, .ref a22, .ref a23, .long 0, .int 0, .int 0, .int 0, .int (-1)])), (a6, .inr (6, [.ref a5, .int 0, .ref a24, .ref a25, .ref a26])), (a2, .inr (0, [.int 0, .int 0, .int 0, .int 0, .int 0, .int 0, .long 0, .ref a9, .ref a10, .ref a11, .ref a12, .ref a13, .ref a14, .ref a15]))]) [2, 3, 4, 5] rfl
    have hDc := hD.sub (ws' := [(a12, .inr (5, [.ref a17, .int 0])), (a5, .inr (2, [.ref a2, .ref a18, .ref a19, .ref a20, .ref a21, .int 0, .int 0, .ref a22, .ref a23, .long 0, .int 0, .int 0, .int 0, .int (-1)])), (a6, .inr (6, [.ref a5, .int 0, .ref a24, .ref a25, .ref a26])), (a2, .inr (0, [.int 0, .int 0, .int 0, .int 0, .int 0, .int 0, .long 0, .ref a9, .ref a10, .ref a11, .ref a12, .ref a13, .ref a14, .ref a15]))]) [2, 3, 4, 5] (by decide) rfl
    have hKc := hK.sub (tys' := []) [] rfl
    have hFc := va_free (wc := [(a12, .inr (5, [.ref a17, .int 0])), (a5, .inr (2, [.ref a2, .ref a18, .ref a19, .ref a20, .ref a21, .int 0, .int 0, .ref a22, .ref a23, .long 0, .int 0, .int 0, .int 0, .int (-1)])), (a6, .inr (6, [.ref a5, .int 0, .ref a24, .ref a25, .ref a26])), (a2, .inr (0, [.int 0, .int 0, .int 0, .int 0, .int 0, .int 0, .long 0, .ref a9, .ref a10, .ref a11, .ref a12, .ref a13, .ref a14, .ref a15]))]) hD hS hA [2, 3, 4, 5] rfl
    refine va_calli (va_runV (As := [.int 0]) (rest := [.int 0, .int p1]) ⟨hx, hb, hml, hown, hts⟩ (zX6_feesOf l dC dI adK adV H.size a6 a12 a17 a5 a2 a18 a19 a20 a21 a22 a23 a24 a25 a26 a9 a10 a11 a13 a14 a15) (cwV 1 hts (tb_V mw_1069 mw_1061 mw_1062 mw_113 mw_1063) rfl rfl rfl (by decide +kernel) ⟨Nat.le_of_ble_eq_true rfl, Nat.le_of_ble_eq_true rfl⟩) ⟨XB, va_recv hKc hPc (ci := 6) (q0 := 2) rfl rfl, XQ (av := [.ref a6, .int 0]) hPc hKc hDc hC hS hFc⟩ rfl rfl hl.1 rfl (lv_room (Nat.le_of_ble_eq_true rfl)) dX9_list_29 ⟨Nat.le_of_ble_eq_true rfl, Nat.le_of_ble_eq_true rfl⟩) hS (fun q _ h => hFc q h) hFc (fun r_7 u_9 t H1 locs ht hvm hw hB hz1 hk1 hS => ?_)
    try dsimp only at hw
    obtain ⟨hP1, hK1, hD1⟩ := hB
    rw [ht] at hP1
    have hK1 := va_K.moved hvm.symm hK1
    obtain ⟨hP, hD⟩ := va_join (wr := [(a0, .inr (9, [.ref a1, .int 0, .ref a2, .ref a3, .ref a4, .ref a5, .ref a6, .ref a7, .ref a8])), (a11, .inr (5, [.ref a16, .int 0]))]) (w1 := [(a12, .inr (5, [.ref a17, .int 0])), (a5, .inr (2, [.ref a2, .ref a18, .ref a19, .ref a20, .ref a21, .int 0, .int 0, .ref a22, .ref a23, .long 0, .int 0, .int 0, .int 0, .int (-1)])), (a6, .inr (6, [.ref a5, .int 0, .ref a24, .ref a25, .ref a26])), (a2, .inr (0, [.int 0, .int 0, .int 0, .int 0, .int 0, .int 0, .long 0, .ref a9, .ref a10, .ref a11, .ref a12, .ref a13, .ref a14, .ref a15]))]) hP hD [2, 3, 4, 5] [0, 1] rfl rfl (by decide) (by decide) hk1 hFc hP1 hD1
    have hK := (hK.sub (tys' := []) [] rfl).app hK1
    generalize H1 = H at hP hS ⊢
    have hP : va_P (dC, dI) CL [(a0, .inr (9, [.ref a1, .int 0, .ref a2, .ref a3, .ref a4, .ref a5, .ref a6, .ref a7, .ref a8])), (a11, .inr (5, [.ref a16, .int 0])), (a12, .inr (5, [.ref a17, .int 0])), (a5, .inr (2, [.ref a2, .ref a18, .ref a19, .ref a20, .ref a21, .int 0, .int 0, .ref a22, .ref a23, .long 0, .int 0, .int 0, .int 0, .int (-1)])), (a6, .inr (6, [.ref a5, .int 0, .ref a24, .ref a25, .ref a26])), (a2, .inr (0, [.int 0, .int 0, .int 0, .int 0, .int 0, .int 0, .long 0, .ref a9, .ref a10, .ref a11, .ref a12, .ref a13, .ref a14, .ref a15]))] H := hP
    have hD : va_D A [(a0, .inr (9, [.ref a1, .int 0, .ref a2, .ref a3, .ref a4, .ref a5, .ref a6, .ref a7, .ref a8])), (a11, .inr (5, [.ref a16, .int 0])), (a12, .inr (5, [.ref a17, .int 0])), (a5, .inr (2, [.ref a2, .ref a18, .ref a19, .ref a20, .ref a21, .int 0, .int 0, .ref a22, .ref a23, .long 0, .int 0, .int 0, .int 0, .int (-1)])), (a6, .inr (6, [.ref a5, .int 0, .ref a24, .ref a25, .ref a26])), (a2, .inr (0, [.int 0, .int 0, .int 0, .int 0, .int 0, .int 0, .long 0, .ref a9, .ref a10, .ref a11, .ref a12, .ref a13, .ref a14, .ref a15]))] := hD
    have hK : va_K (dC, dI) CL [] s := hK
    subst hw
    have hPc := hP.sub (ws' := []) [] rfl
    have hDc := hD.sub (ws' := []) [] (by decide) rfl
    have hKc := hK.sub (tys' := []) [] rfl
    have hFc := va_free (wc := []) hD hS hA [] rfl
    refine va_calli (va_runS (As := [.int p1, .int 0, .int 0]) (rest := []) ⟨hx, hb, hml, hown, hts⟩ (zX9_eitherOf_2 l dC dI adK adV H.size p1) (va_cwS 3 hts (tb_S mw_952 mw_953 mw_99 mw_954) rfl rfl rfl (by decide +kernel) ⟨Nat.le_of_ble_eq_true rfl, Nat.le_of_ble_eq_true rfl⟩) ⟨XB, XQ (av := [.int p1, .int 0, .int 0]) hPc hKc hDc hC hS hFc⟩ rfl rfl hl.1 rfl (lv_room (Nat.le_of_ble_eq_true rfl)) dX9_list_32 ⟨Nat.le_of_ble_eq_true rfl, Nat.le_of_ble_eq_true rfl⟩) hS (fun q _ h => hFc q h) hFc (fun r_8 u_9 t H1 locs ht hvm hw hB hz1 hk1 hS => ?_)
    try dsimp only at hw
    obtain ⟨hP1, hK1, hD1⟩ := hB
    rw [ht] at hP1
    have hK1 := va_K.moved hvm.symm hK1
    obtain ⟨hP, hD⟩ := va_join (wr := [(a0, .inr (9, [.ref a1, .int 0, .ref a2, .ref a3, .ref a4, .ref a5, .ref a6, .ref a7, .ref a8])), (a11, .inr (5, [.ref a16, .int 0])), (a12, .inr (5, [.ref a17, .int 0])), (a5, .inr (2, [.ref a2, .ref a18, .ref a19, .ref a20, .ref a21, .int 0, .int 0, .ref a22, .ref a23, .long 0, .int 0, .int 0, .int 0, .int (-1)])), (a6, .inr (6, [.ref a5, .int 0, .ref a24, .ref a25, .ref a26])), (a2, .inr (0, [.int 0, .int 0, .int 0, .int 0, .int 0, .int 0, .long 0, .ref a9, .ref a10, .ref a11, .ref a12, .ref a13, .ref a14, .ref a15]))]) (w1 := []) hP hD [] [0, 1, 2, 3, 4, 5] rfl rfl (by decide) (by decide) hk1 hFc hP1 hD1
    have hK := (hK.sub (tys' := []) [] rfl).app hK1
    generalize H1 = H at hP hS ⊢
    have hP : va_P (dC, dI) CL [(a0, .inr (9, [.ref a1, .int 0, .ref a2, .ref a3, .ref a4, .ref a5, .ref a6, .ref a7, .ref a8])), (a11, .inr (5, [.ref a16, .int 0])), (a12, .inr (5, [.ref a17, .int 0])), (a5, .inr (2, [.ref a2, .ref a18, .ref a19, .ref a20, .ref a21, .int 0, .int 0, .ref a22, .ref a23, .long 0, .int 0, .int 0, .int 0, .int (-1)])), (a6, .inr (6, [.ref a5, .int 0, .ref a24, .ref a25, .ref a26])), (a2, .inr (0, [.int 0, .int 0, .int 0, .int 0, .int 0, .int 0, .long 0, .ref a9, .ref a10, .ref a11, .ref a12, .ref a13, .ref a14, .ref a15]))] H := hP
    have hD : va_D A [(a0, .inr (9, [.ref a1, .int 0, .ref a2, .ref a3, .ref a4, .ref a5, .ref a6, .ref a7, .ref a8])), (a11, .inr (5, [.ref a16, .int 0])), (a12, .inr (5, [.ref a17, .int 0])), (a5, .inr (2, [.ref a2, .ref a18, .ref a19, .ref a20, .ref a21, .int 0, .int 0, .ref a22, .ref a23, .long 0, .int 0, .int 0, .int 0, .int (-1)])), (a6, .inr (6, [.ref a5, .int 0, .ref a24, .ref a25, .ref a26])), (a2, .inr (0, [.int 0, .int 0, .int 0, .int 0, .int 0, .int 0, .long 0, .ref a9, .ref a10, .ref a11, .ref a12, .ref a13, .ref a14, .ref a15]))] := hD
    have hK : va_K (dC, dI) CL [] s := hK
    rcases hw with ⟨hw, h_9⟩ | ⟨hw, h_10⟩ | ⟨hw, h_11, h_12⟩
    · subst hw
      obtain rfl : p1 = 0 := Int32.toInt_inj.mp (by rw [xi_0]; have kh_9 := eq_i h_9; simp only [xi_0] at kh_9; omega)
      refine W.widen (k := 0) (n := 0) (Nat.le_of_ble_eq_true rfl) (Nat.le_of_ble_eq_true rfl) ?_
      exact W.iret (v := 0) hx hb hr (fun t ht hW => ⟨⟨0, (), rfl, (by first | decide | exact (if_pos (by omega)).symm | exact (if_neg (by omega)).symm), trivial⟩, hS.F ht⟩) hS.2.2 dX9_list_35
    · subst hw
      obtain rfl : p1 = 1 := Int32.toInt_inj.mp (by rw [xi_1]; have kh_10 := eq_i h_10; simp only [xi_1] at kh_10; omega)
      refine W.widen (k := 0) (n := 0) (Nat.le_of_ble_eq_true rfl) (Nat.le_of_ble_eq_true rfl) ?_
      exact W.iret (v := 0) hx hb hr (fun t ht hW => ⟨⟨0, (), rfl, (by first | decide | exact (if_pos (by omega)).symm | exact (if_neg (by omega)).symm), trivial⟩, hS.F ht⟩) hS.2.2 dX9_list_35
    · subst hw
      refine W.widen (k := 0) (n := 0) (Nat.le_of_ble_eq_true rfl) (Nat.le_of_ble_eq_true rfl) ?_
      exact W.iret (v := (-1)) hx hb hr (fun t ht hW => ⟨⟨(-1), (), rfl, (by first | decide | exact (if_pos (by have kh_11 := ne_i h_11; have kh_12 := ne_i h_12; simp only [xi_0, xi_1] at kh_11 kh_12; omega)).symm | exact (if_neg (by have kh_11 := ne_i h_11; have kh_12 := ne_i h_12; simp only [xi_0, xi_1] at kh_11 kh_12; omega)).symm), trivial⟩, hS.F ht⟩) hS.2.2 dX9_list_35
set_option maxHeartbeats 4000000 in
set_option maxRecDepth 100000 in
theorem zX6_feesByRounds (l : Launch) (dC : Nat → ClassId) (dI : Nat → Nat → Nat) (adK adV : Nat → Nat) (sz : Nat) (a0 : Nat) (a1 : Nat) (a2 : Nat) (a3 : Nat) (a4 : Nat) (a5 : Nat) (a6 : Nat) (a7 : Nat) (a8 : Nat) (a9 : Nat) (a10 : Nat) (a11 : Nat) (k0 : ClassId) (f0 : Nat → Int32) (k1 : ClassId) (f1 : Nat → Int32) (k2 : ClassId) (f2 : Nat → Int32) (a12 : Nat) (a13 : Nat) (a14 : Nat) (a15 : Nat) (a16 : Nat) (a17 : Nat) (a18 : Nat) (a19 : Nat) : Met l yX6_feesByRounds (Cond.code yX6_feesByRounds cX6_feesByRounds 2 (some .int) :: TB) ({ frames := 3, cells := 0, slots := 0, locals := 144 }) (XP (dC, dI) adK adV [.ref a0, .int 0] sz [(a1, .inr (2, [.ref a2, .ref a3, .ref a4, .ref a5, .ref a6, .int 0, .int 0, .ref a7, .ref a8, .long 0, .int 0, .int 0, .int 0, .int (-1)])), (a0, .inr (6, [.ref a1, .int 0, .ref a9, .ref a10, .ref a11])), (a9, .inl (k0, 256, .inl f0)), (a10, .inl (k1, 256, .inl f1)), (a11, .inl (k2, 256, .inl f2)), (a2, .inr (0, [.int 0, .int 0, .int 0, .int 0, .int 0, .int 0, .long 0, .ref a12, .ref a13, .ref a14, .ref a15, .ref a16, .ref a17, .ref a18])), (a14, .inr (5, [.ref a19, .int 0]))] [(k0, .int), (k1, .int), (k2, .int)]) (va_Qi (fun (r : Int32) (_ : Unit) => r = 0) (fun _ t => va_P (dC, dI) CL [(a1, .inr (2, [.ref a2, .ref a3, .ref a4, .ref a5, .ref a6, .int 0, .int 0, .ref a7, .ref a8, .long 0, .int 0, .int 0, .int 0, .int (-1)])), (a0, .inr (6, [.ref a1, .int 1, .ref a9, .ref a10, .ref a11])), (a9, .inl (k0, 256, .inl (upd f0 0 0))), (a10, .inl (k1, 256, .inl (upd f1 0 (-1)))), (a11, .inl (k2, 256, .inl (upd f2 0 0))), (a2, .inr (0, [.int 0, .int 0, .int 0, .int 0, .int 0, .int 0, .long 0, .ref a12, .ref a13, .ref a14, .ref a15, .ref a16, .ref a17, .ref a18])), (a14, .inr (5, [.ref a19, .int 0]))] t.heap ∧ va_K (dC, dI) CL [(k0, .int), (k1, .int), (k2, .int)] t ∧ va_D (va_A [(a1, .inr (2, [.ref a2, .ref a3, .ref a4, .ref a5, .ref a6, .int 0, .int 0, .ref a7, .ref a8, .long 0, .int 0, .int 0, .int 0, .int (-1)])), (a0, .inr (6, [.ref a1, .int 0, .ref a9, .ref a10, .ref a11])), (a9, .inl (k0, 256, .inl f0)), (a10, .inl (k1, 256, .inl f1)), (a11, .inl (k2, 256, .inl f2)), (a2, .inr (0, [.int 0, .int 0, .int 0, .int 0, .int 0, .int 0, .long 0, .ref a12, .ref a13, .ref a14, .ref a15, .ref a16, .ref a17, .ref a18])), (a14, .inr (5, [.ref a19, .int 0]))] sz) [(a1, .inr (2, [.ref a2, .ref a3, .ref a4, .ref a5, .ref a6, .int 0, .int 0, .ref a7, .ref a8, .long 0, .int 0, .int 0, .int 0, .int (-1)])), (a0, .inr (6, [.ref a1, .int 1, .ref a9, .ref a10, .ref a11])), (a9, .inl (k0, 256, .inl (upd f0 0 0))), (a10, .inl (k1, 256, .inl (upd f1 0 (-1)))), (a11, .inl (k2, 256, .inl (upd f2 0 0))), (a2, .inr (0, [.int 0, .int 0, .int 0, .int 0, .int 0, .int 0, .long 0, .ref a12, .ref a13, .ref a14, .ref a15, .ref a16, .ref a17, .ref a18])), (a14, .inr (5, [.ref a19, .int 0]))]) (va_A [(a1, .inr (2, [.ref a2, .ref a3, .ref a4, .ref a5, .ref a6, .int 0, .int 0, .ref a7, .ref a8, .long 0, .int 0, .int 0, .int 0, .int (-1)])), (a0, .inr (6, [.ref a1, .int 0, .ref a9, .ref a10, .ref a11])), (a9, .inl (k0, 256, .inl f0)), (a10, .inl (k1, 256, .inl f1)), (a11, .inl (k2, 256, .inl f2)), (a2, .inr (0, [.int 0, .int 0, .int 0, .int 0, .int 0, .int 0, .long 0, .ref a12, .ref a13, .ref a14, .ref a15, .ref a16, .ref a17, .ref a18])), (a14, .inr (5, [.ref a19, .int 0]))] sz)) 0 0 (va_A [(a1, .inr (2, [.ref a2, .ref a3, .ref a4, .ref a5, .ref a6, .int 0, .int 0, .ref a7, .ref a8, .long 0, .int 0, .int 0, .int 0, .int (-1)])), (a0, .inr (6, [.ref a1, .int 0, .ref a9, .ref a10, .ref a11])), (a9, .inl (k0, 256, .inl f0)), (a10, .inl (k1, 256, .inl f1)), (a11, .inl (k2, 256, .inl f2)), (a2, .inr (0, [.int 0, .int 0, .int 0, .int 0, .int 0, .int 0, .long 0, .ref a12, .ref a13, .ref a14, .ref a15, .ref a16, .ref a17, .ref a18])), (a14, .inr (5, [.ref a19, .int 0]))] sz) := by
  refine Met.ofW (cc := cX6_feesByRounds) (maxL := 2) (ret := (some .int)) (by decide) rfl ?_
  intro p e s m args below meth c s₁ B hml hv
  obtain ⟨rfl, hsz, hP, hK, hD0, hC⟩ := hv
  have hx := B.exec
  have hb := B.bytes
  have hr := B.returns
  have hts0 := atoms_spec (ws := Cond.code yX6_feesByRounds cX6_feesByRounds 2 (some .int) :: TB) B.pre
  have hts : ∀ w ∈ TB, w.before _ s = true := fun w h => hts0 w (List.mem_cons_of_mem _ h)
  have hown : s.vm.findClass RX6 = some m.cls := findClass_of_methodNamed B.named
  have hlocks := B.notSynchronized
  subst hsz
  have hD := hD0.self (sz := s.heap.size)
  generalize hAe : va_A [(a1, .inr (2, [.ref a2, .ref a3, .ref a4, .ref a5, .ref a6, .int 0, .int 0, .ref a7, .ref a8, .long 0, .int 0, .int 0, .int 0, .int (-1)])), (a0, .inr (6, [.ref a1, .int 0, .ref a9, .ref a10, .ref a11])), (a9, .inl (k0, 256, .inl f0)), (a10, .inl (k1, 256, .inl f1)), (a11, .inl (k2, 256, .inl f2)), (a2, .inr (0, [.int 0, .int 0, .int 0, .int 0, .int 0, .int 0, .long 0, .ref a12, .ref a13, .ref a14, .ref a15, .ref a16, .ref a17, .ref a18])), (a14, .inr (5, [.ref a19, .int 0]))] s.heap.size = A at hD hC ⊢
  have hA : ∀ q : Nat, s.heap.size ≤ q → A q := fun q h => by rw [← hAe]; exact Or.inr h
  have hl := lv_entry ([.ref a0, .int 0]) (n := 2) (Nat.le_of_ble_eq_true rfl)
  rw [lg_entry_eq]
  generalize (lg_sl ([.ref a0, .int 0]) ++ List.replicate (2 - (lg_sl ([.ref a0, .int 0])).length) Slot.unset).toArray = ls at hl ⊢
  have hl : lv_has ls 2 [(0, .ref a0), (1, .int 0)] := hl
  have hP : va_P (dC, dI) CL [(a1, .inr (2, [.ref a2, .ref a3, .ref a4, .ref a5, .ref a6, .int 0, .int 0, .ref a7, .ref a8, .long 0, .int 0, .int 0, .int 0, .int (-1)])), (a0, .inr (6, [.ref a1, .int 0, .ref a9, .ref a10, .ref a11])), (a9, .inl (k0, 256, .inl f0)), (a10, .inl (k1, 256, .inl f1)), (a11, .inl (k2, 256, .inl f2)), (a2, .inr (0, [.int 0, .int 0, .int 0, .int 0, .int 0, .int 0, .long 0, .ref a12, .ref a13, .ref a14, .ref a15, .ref a16, .ref a17, .ref a18])), (a14, .inr (5, [.ref a19, .int 0]))] s.heap := hP
  obtain ⟨H, hH⟩ : ∃ z, z = s.heap := ⟨_, rfl⟩
  rw [← hH] at hP ⊢
  have hS : va_S A s.heap H [] := by rw [hH]; exact va_S.rf
  refine lv_aload_n hx hb dX6_feesByRounds_0 rfl (lv_at hl 0 rfl) ?_
  have hPc := hP.sub (ws' := [(a1, .inr (2, [.ref a2, .ref a3, .ref a4, .ref a5, .ref a6, .int 0, .int 0, .ref a7, .ref a8, .long 0, .int 0, .int 0, .int 0, .int (-1)])), (a0, .inr (6, [.ref a1, .int 0, .ref a9, .ref a10, .ref a11])), (a9, .inl (k0, 256, .inl f0)), (a10, .inl (k1, 256, .inl f1)), (a11, .inl (k2, 256, .inl f2)), (a2, .inr (0, [.int 0, .int 0, .int 0, .int 0, .int 0, .int 0, .long 0, .ref a12, .ref a13, .ref a14, .ref a15, .ref a16, .ref a17, .ref a18])), (a14, .inr (5, [.ref a19, .int 0]))]) [0, 1, 2, 3, 4, 5, 6] rfl
  have hDc := hD.sub (ws' := [(a1, .inr (2, [.ref a2, .ref a3, .ref a4, .ref a5, .ref a6, .int 0, .int 0, .ref a7, .ref a8, .long 0, .int 0, .int 0, .int 0, .int (-1)])), (a0, .inr (6, [.ref a1, .int 0, .ref a9, .ref a10, .ref a11])), (a9, .inl (k0, 256, .inl f0)), (a10, .inl (k1, 256, .inl f1)), (a11, .inl (k2, 256, .inl f2)), (a2, .inr (0, [.int 0, .int 0, .int 0, .int 0, .int 0, .int 0, .long 0, .ref a12, .ref a13, .ref a14, .ref a15, .ref a16, .ref a17, .ref a18])), (a14, .inr (5, [.ref a19, .int 0]))]) [0, 1, 2, 3, 4, 5, 6] (by decide) rfl
  have hKc := hK.sub (tys' := [(k0, .int), (k1, .int), (k2, .int)]) [0, 1, 2] rfl
  have hFc := va_free (wc := [(a1, .inr (2, [.ref a2, .ref a3, .ref a4, .ref a5, .ref a6, .int 0, .int 0, .ref a7, .ref a8, .long 0, .int 0, .int 0, .int 0, .int (-1)])), (a0, .inr (6, [.ref a1, .int 0, .ref a9, .ref a10, .ref a11])), (a9, .inl (k0, 256, .inl f0)), (a10, .inl (k1, 256, .inl f1)), (a11, .inl (k2, 256, .inl f2)), (a2, .inr (0, [.int 0, .int 0, .int 0, .int 0, .int 0, .int 0, .long 0, .ref a12, .ref a13, .ref a14, .ref a15, .ref a16, .ref a17, .ref a18])), (a14, .inr (5, [.ref a19, .int 0]))]) hD hS hA [0, 1, 2, 3, 4, 5, 6] rfl
  refine va_callv (va_runV (As := []) (rest := []) ⟨hx, hb, hml, hown, hts⟩ (zX6_workOut l dC dI adK adV H.size a0 a1 a2 a3 a4 a5 a6 a7 a8 a9 a10 a11 k0 f0 k1 f1 k2 f2 a12 a13 a14 a15 a16 a17 a18 a19) (cwV 0 hts (tb_V mw_1026 mw_1028 mw_38 mw_113 mw_1029) rfl rfl rfl (by decide +kernel) ⟨Nat.le_of_ble_eq_true rfl, Nat.le_of_ble_eq_true rfl⟩) ⟨XB, va_recv hKc hPc (ci := 6) (q0 := 1) rfl rfl, XQ (av := [.ref a0]) hPc hKc hDc hC hS hFc⟩ rfl rfl hl.1 rfl (lv_room (Nat.le_of_ble_eq_true rfl)) dX6_feesByRounds_1 ⟨Nat.le_of_ble_eq_true rfl, Nat.le_of_ble_eq_true rfl⟩) hS (fun q _ h => hFc q h) hFc (fun u_9 t H1 locs ht hvm hw hB hz1 hk1 hS => ?_)
  try dsimp only at hw
  obtain ⟨hP1, hK1, hD1⟩ := hB
  rw [ht] at hP1
  have hK1 := va_K.moved hvm.symm hK1
  obtain ⟨hP, hD⟩ := va_join (wr := []) (w1 := [(a1, .inr (2, [.ref a2, .ref a3, .ref a4, .ref a5, .ref a6, .int 0, .int 0, .ref a7, .ref a8, .long 0, .int 0, .int 0, .int 0, .int (-1)])), (a0, .inr (6, [.ref a1, .int 1, .ref a9, .ref a10, .ref a11])), (a9, .inl (k0, 256, .inl (upd f0 0 0))), (a10, .inl (k1, 256, .inl (upd f1 0 (-1)))), (a11, .inl (k2, 256, .inl (upd f2 0 0))), (a2, .inr (0, [.int 0, .int 0, .int 0, .int 0, .int 0, .int 0, .long 0, .ref a12, .ref a13, .ref a14, .ref a15, .ref a16, .ref a17, .ref a18])), (a14, .inr (5, [.ref a19, .int 0]))]) hP hD [0, 1, 2, 3, 4, 5, 6] [] rfl rfl (by decide) (by decide) hk1 hFc hP1 hD1
  have hK := (hK.sub (tys' := []) [] rfl).app hK1
  generalize H1 = H at hP hS ⊢
  have hP : va_P (dC, dI) CL [(a1, .inr (2, [.ref a2, .ref a3, .ref a4, .ref a5, .ref a6, .int 0, .int 0, .ref a7, .ref a8, .long 0, .int 0, .int 0, .int 0, .int (-1)])), (a0, .inr (6, [.ref a1, .int 1, .ref a9, .ref a10, .ref a11])), (a9, .inl (k0, 256, .inl (upd f0 0 0))), (a10, .inl (k1, 256, .inl (upd f1 0 (-1)))), (a11, .inl (k2, 256, .inl (upd f2 0 0))), (a2, .inr (0, [.int 0, .int 0, .int 0, .int 0, .int 0, .int 0, .long 0, .ref a12, .ref a13, .ref a14, .ref a15, .ref a16, .ref a17, .ref a18])), (a14, .inr (5, [.ref a19, .int 0]))] H := hP
  have hD : va_D A [(a1, .inr (2, [.ref a2, .ref a3, .ref a4, .ref a5, .ref a6, .int 0, .int 0, .ref a7, .ref a8, .long 0, .int 0, .int 0, .int 0, .int (-1)])), (a0, .inr (6, [.ref a1, .int 1, .ref a9, .ref a10, .ref a11])), (a9, .inl (k0, 256, .inl (upd f0 0 0))), (a10, .inl (k1, 256, .inl (upd f1 0 (-1)))), (a11, .inl (k2, 256, .inl (upd f2 0 0))), (a2, .inr (0, [.int 0, .int 0, .int 0, .int 0, .int 0, .int 0, .long 0, .ref a12, .ref a13, .ref a14, .ref a15, .ref a16, .ref a17, .ref a18])), (a14, .inr (5, [.ref a19, .int 0]))] := hD
  have hK : va_K (dC, dI) CL [(k0, .int), (k1, .int), (k2, .int)] s := hK
  refine lv_aload_n hx hb dX6_feesByRounds_4 rfl (lv_at hl 0 rfl) ?_
  refine va_get (D := (dC, dI)) (ci := 6) (v := .ref a9) (C := RX6) (T := TX6) (N := 5) hx hb hts iwX6 hown hK hP 1 rfl rfl 2 (by decide) (hts _ mw_499) (fun _ h9 => h9) rfl dX6_feesByRounds_5 ?_
  refine lv_iload_n hx hb dX6_feesByRounds_8 rfl (lv_at hl 1 rfl) ?_
  refine x_iald (k := 0) (v := 0) hx hb hK hP 2 0 rfl rfl (by decide) (by decide) (by decide) rfl dX6_feesByRounds_9 ?_
  refine W.widen (k := 0) (n := 0) (Nat.le_of_ble_eq_true rfl) (Nat.le_of_ble_eq_true rfl) ?_
  have hP9 := hP.sub (ws' := [(a1, .inr (2, [.ref a2, .ref a3, .ref a4, .ref a5, .ref a6, .int 0, .int 0, .ref a7, .ref a8, .long 0, .int 0, .int 0, .int 0, .int (-1)])), (a0, .inr (6, [.ref a1, .int 1, .ref a9, .ref a10, .ref a11])), (a9, .inl (k0, 256, .inl (upd f0 0 0))), (a10, .inl (k1, 256, .inl (upd f1 0 (-1)))), (a11, .inl (k2, 256, .inl (upd f2 0 0))), (a2, .inr (0, [.int 0, .int 0, .int 0, .int 0, .int 0, .int 0, .long 0, .ref a12, .ref a13, .ref a14, .ref a15, .ref a16, .ref a17, .ref a18])), (a14, .inr (5, [.ref a19, .int 0]))]) [0, 1, 2, 3, 4, 5, 6] rfl
  have hD9 := hD.sub (ws' := [(a1, .inr (2, [.ref a2, .ref a3, .ref a4, .ref a5, .ref a6, .int 0, .int 0, .ref a7, .ref a8, .long 0, .int 0, .int 0, .int 0, .int (-1)])), (a0, .inr (6, [.ref a1, .int 1, .ref a9, .ref a10, .ref a11])), (a9, .inl (k0, 256, .inl (upd f0 0 0))), (a10, .inl (k1, 256, .inl (upd f1 0 (-1)))), (a11, .inl (k2, 256, .inl (upd f2 0 0))), (a2, .inr (0, [.int 0, .int 0, .int 0, .int 0, .int 0, .int 0, .long 0, .ref a12, .ref a13, .ref a14, .ref a15, .ref a16, .ref a17, .ref a18])), (a14, .inr (5, [.ref a19, .int 0]))]) [0, 1, 2, 3, 4, 5, 6] (by decide) rfl
  have hK9 := hK.sub (tys' := [(k0, .int), (k1, .int), (k2, .int)]) [0, 1, 2] rfl
  exact W.iret (v := 0) hx hb hr (fun t ht hW => ⟨⟨0, (), rfl, rfl, by rw [ht]; exact hP9, va_K.moved hW.alike hK9, hD9⟩, hS.F ht⟩) hS.2.2 dX6_feesByRounds_10
set_option maxHeartbeats 4000000 in
set_option maxRecDepth 100000 in
theorem zX6_workOut_2 (l : Launch) (dC : Nat → ClassId) (dI : Nat → Nat → Nat) (adK adV : Nat → Nat) (sz : Nat) (a0 : Nat) (a1 : Nat) (a2 : Nat) (a3 : Nat) (a4 : Nat) : Met l yX6_workOut (Cond.code yX6_workOut cX6_workOut 2 none :: TB) ({ frames := 1, cells := 0, slots := 0, locals := 100 }) (XP (dC, dI) adK adV [.ref a0] sz [(a0, .inr (6, [.ref a1, .int 1, .ref a2, .ref a3, .ref a4]))] []) (va_Qv (fun _ : Unit => True) (fun _ t => va_P (dC, dI) CL [(a0, .inr (6, [.ref a1, .int 1, .ref a2, .ref a3, .ref a4]))] t.heap ∧ va_K (dC, dI) CL [] t ∧ va_D (va_A [(a0, .inr (6, [.ref a1, .int 1, .ref a2, .ref a3, .ref a4]))] sz) [(a0, .inr (6, [.ref a1, .int 1, .ref a2, .ref a3, .ref a4]))]) (va_A [(a0, .inr (6, [.ref a1, .int 1, .ref a2, .ref a3, .ref a4]))] sz)) 0 0 (va_A [(a0, .inr (6, [.ref a1, .int 1, .ref a2, .ref a3, .ref a4]))] sz) := by
  refine Met.ofW (cc := cX6_workOut) (maxL := 2) (ret := none) (by decide) rfl ?_
  intro p e s m args below meth c s₁ B hml hv
  obtain ⟨rfl, hsz, hP, hK, hD0, hC⟩ := hv
  have hx := B.exec
  have hb := B.bytes
  have hr := B.returns
  have hts0 := atoms_spec (ws := Cond.code yX6_workOut cX6_workOut 2 none :: TB) B.pre
  have hts : ∀ w ∈ TB, w.before _ s = true := fun w h => hts0 w (List.mem_cons_of_mem _ h)
  have hown : s.vm.findClass RX6 = some m.cls := findClass_of_methodNamed B.named
  have hlocks := B.notSynchronized
  subst hsz
  have hD := hD0.self (sz := s.heap.size)
  generalize hAe : va_A [(a0, .inr (6, [.ref a1, .int 1, .ref a2, .ref a3, .ref a4]))] s.heap.size = A at hD hC ⊢
  have hA : ∀ q : Nat, s.heap.size ≤ q → A q := fun q h => by rw [← hAe]; exact Or.inr h
  have hl := lv_entry ([.ref a0]) (n := 2) (Nat.le_of_ble_eq_true rfl)
  rw [lg_entry_eq]
  generalize (lg_sl ([.ref a0]) ++ List.replicate (2 - (lg_sl ([.ref a0])).length) Slot.unset).toArray = ls at hl ⊢
  have hl : lv_has ls 2 [(0, .ref a0)] := hl
  have hP : va_P (dC, dI) CL [(a0, .inr (6, [.ref a1, .int 1, .ref a2, .ref a3, .ref a4]))] s.heap := hP
  obtain ⟨H, hH⟩ : ∃ z, z = s.heap := ⟨_, rfl⟩
  rw [← hH] at hP ⊢
  have hS : va_S A s.heap H [] := by rw [hH]; exact va_S.rf
  refine lv_aload_n hx hb dX6_workOut_0 rfl (lv_at hl 0 rfl) ?_
  refine va_get (D := (dC, dI)) (ci := 6) (v := .int 1) (C := RX6) (T := TX6) (N := 5) hx hb hts iwX6 hown hK hP 0 rfl rfl 1 (by decide) (hts _ mw_498) (fun _ h9 => h9) rfl dX6_workOut_1 ?_
  refine lv_if_eq (tgt := 8) hx hb dX6_workOut_4 (by decide) (fun h => absurd h (by decide)) (fun _ => ?_)
  refine W.widen (k := 0) (n := 0) (Nat.le_of_ble_eq_true rfl) (Nat.le_of_ble_eq_true rfl) ?_
  have hP9 := hP.sub (ws' := [(a0, .inr (6, [.ref a1, .int 1, .ref a2, .ref a3, .ref a4]))]) [0] rfl
  have hD9 := hD.sub (ws' := [(a0, .inr (6, [.ref a1, .int 1, .ref a2, .ref a3, .ref a4]))]) [0] (by decide) rfl
  have hK9 := hK.sub (tys' := []) [] rfl
  exact W.vret hx hb hr (fun t ht hW => ⟨⟨(), rfl, trivial, by rw [ht]; exact hP9, va_K.moved hW.alike hK9, hD9⟩, hS.F ht⟩) hS.2.2 dX6_workOut_7
set_option maxHeartbeats 4000000 in
set_option maxRecDepth 100000 in
theorem zX6_firstCalled (l : Launch) (dC : Nat → ClassId) (dI : Nat → Nat → Nat) (adK adV : Nat → Nat) (sz : Nat) (a0 : Nat) (a1 : Nat) (a2 : Nat) (a3 : Nat) (a4 : Nat) (k0 : ClassId) (f0 : Nat → Int32) : Met l yX6_firstCalled (Cond.code yX6_firstCalled cX6_firstCalled 2 (some .int) :: TB) ({ frames := 2, cells := 0, slots := 0, locals := 121 }) (XP (dC, dI) adK adV [.ref a0, .int 0] sz [(a0, .inr (6, [.ref a1, .int 1, .ref a2, .ref a3, .ref a4])), (a3, .inl (k0, 256, .inl (upd f0 0 (-1))))] [(k0, .int)]) (va_Qi (fun (r : Int32) (_ : Unit) => r = (-1)) (fun _ t => va_P (dC, dI) CL [(a3, .inl (k0, 256, .inl (upd f0 0 (-1)))), (a0, .inr (6, [.ref a1, .int 1, .ref a2, .ref a3, .ref a4]))] t.heap ∧ va_K (dC, dI) CL [(k0, .int)] t ∧ va_D (va_A [(a0, .inr (6, [.ref a1, .int 1, .ref a2, .ref a3, .ref a4])), (a3, .inl (k0, 256, .inl (upd f0 0 (-1))))] sz) [(a3, .inl (k0, 256, .inl (upd f0 0 (-1)))), (a0, .inr (6, [.ref a1, .int 1, .ref a2, .ref a3, .ref a4]))]) (va_A [(a0, .inr (6, [.ref a1, .int 1, .ref a2, .ref a3, .ref a4])), (a3, .inl (k0, 256, .inl (upd f0 0 (-1))))] sz)) 0 0 (va_A [(a0, .inr (6, [.ref a1, .int 1, .ref a2, .ref a3, .ref a4])), (a3, .inl (k0, 256, .inl (upd f0 0 (-1))))] sz) := by
  refine Met.ofW (cc := cX6_firstCalled) (maxL := 2) (ret := (some .int)) (by decide) rfl ?_
  intro p e s m args below meth c s₁ B hml hv
  obtain ⟨rfl, hsz, hP, hK, hD0, hC⟩ := hv
  have hx := B.exec
  have hb := B.bytes
  have hr := B.returns
  have hts0 := atoms_spec (ws := Cond.code yX6_firstCalled cX6_firstCalled 2 (some .int) :: TB) B.pre
  have hts : ∀ w ∈ TB, w.before _ s = true := fun w h => hts0 w (List.mem_cons_of_mem _ h)
  have hown : s.vm.findClass RX6 = some m.cls := findClass_of_methodNamed B.named
  have hlocks := B.notSynchronized
  subst hsz
  have hD := hD0.self (sz := s.heap.size)
  generalize hAe : va_A [(a0, .inr (6, [.ref a1, .int 1, .ref a2, .ref a3, .ref a4])), (a3, .inl (k0, 256, .inl (upd f0 0 (-1))))] s.heap.size = A at hD hC ⊢
  have hA : ∀ q : Nat, s.heap.size ≤ q → A q := fun q h => by rw [← hAe]; exact Or.inr h
  have hl := lv_entry ([.ref a0, .int 0]) (n := 2) (Nat.le_of_ble_eq_true rfl)
  rw [lg_entry_eq]
  generalize (lg_sl ([.ref a0, .int 0]) ++ List.replicate (2 - (lg_sl ([.ref a0, .int 0])).length) Slot.unset).toArray = ls at hl ⊢
  have hl : lv_has ls 2 [(0, .ref a0), (1, .int 0)] := hl
  have hP : va_P (dC, dI) CL [(a0, .inr (6, [.ref a1, .int 1, .ref a2, .ref a3, .ref a4])), (a3, .inl (k0, 256, .inl (upd f0 0 (-1))))] s.heap := hP
  obtain ⟨H, hH⟩ : ∃ z, z = s.heap := ⟨_, rfl⟩
  rw [← hH] at hP ⊢
  have hS : va_S A s.heap H [] := by rw [hH]; exact va_S.rf
  refine lv_aload_n hx hb dX6_firstCalled_0 rfl (lv_at hl 0 rfl) ?_
  have hPc := hP.sub (ws' := [(a0, .inr (6, [.ref a1, .int 1, .ref a2, .ref a3, .ref a4]))]) [0] rfl
  have hDc := hD.sub (ws' := [(a0, .inr (6, [.ref a1, .int 1, .ref a2, .ref a3, .ref a4]))]) [0] (by decide) rfl
  have hKc := hK.sub (tys' := []) [] rfl
  have hFc := va_free (wc := [(a0, .inr (6, [.ref a1, .int 1, .ref a2, .ref a3, .ref a4]))]) hD hS hA [0] rfl
  refine va_callv (va_runV (As := []) (rest := []) ⟨hx, hb, hml, hown, hts⟩ (zX6_workOut_2 l dC dI adK adV H.size a0 a1 a2 a3 a4) (cwV 0 hts (tb_V mw_1026 mw_1028 mw_38 mw_113 mw_1029) rfl rfl rfl (by decide +kernel) ⟨Nat.le_of_ble_eq_true rfl, Nat.le_of_ble_eq_true rfl⟩) ⟨XB, va_recv hKc hPc (ci := 6) (q0 := 0) rfl rfl, XQ (av := [.ref a0]) hPc hKc hDc hC hS hFc⟩ rfl rfl hl.1 rfl (lv_room (Nat.le_of_ble_eq_true rfl)) dX6_firstCalled_1 ⟨Nat.le_of_ble_eq_true rfl, Nat.le_of_ble_eq_true rfl⟩) hS (fun q _ h => hFc q h) hFc (fun u_9 t H1 locs ht hvm hw hB hz1 hk1 hS => ?_)
  try dsimp only at hw
  obtain ⟨hP1, hK1, hD1⟩ := hB
  rw [ht] at hP1
  have hK1 := va_K.moved hvm.symm hK1
  obtain ⟨hP, hD⟩ := va_join (wr := [(a3, .inl (k0, 256, .inl (upd f0 0 (-1))))]) (w1 := [(a0, .inr (6, [.ref a1, .int 1, .ref a2, .ref a3, .ref a4]))]) hP hD [0] [1] rfl rfl (by decide) (by decide) hk1 hFc hP1 hD1
  have hK := (hK.sub (tys' := [(k0, .int)]) [0] rfl).app hK1
  generalize H1 = H at hP hS ⊢
  have hP : va_P (dC, dI) CL [(a3, .inl (k0, 256, .inl (upd f0 0 (-1)))), (a0, .inr (6, [.ref a1, .int 1, .ref a2, .ref a3, .ref a4]))] H := hP
  have hD : va_D A [(a3, .inl (k0, 256, .inl (upd f0 0 (-1)))), (a0, .inr (6, [.ref a1, .int 1, .ref a2, .ref a3, .ref a4]))] := hD
  have hK : va_K (dC, dI) CL [(k0, .int)] s := hK
  refine lv_aload_n hx hb dX6_firstCalled_4 rfl (lv_at hl 0 rfl) ?_
  refine va_get (D := (dC, dI)) (ci := 6) (v := .ref a3) (C := RX6) (T := TX6) (N := 5) hx hb hts iwX6 hown hK hP 1 rfl rfl 3 (by decide) (hts _ mw_500) (fun _ h9 => h9) rfl dX6_firstCalled_5 ?_
  refine lv_iload_n hx hb dX6_firstCalled_8 rfl (lv_at hl 1 rfl) ?_
  refine x_iald (k := 0) (v := (-1)) hx hb hK hP 0 0 rfl rfl (by decide) (by decide) (by decide) rfl dX6_firstCalled_9 ?_
  refine W.widen (k := 0) (n := 0) (Nat.le_of_ble_eq_true rfl) (Nat.le_of_ble_eq_true rfl) ?_
  have hP9 := hP.sub (ws' := [(a3, .inl (k0, 256, .inl (upd f0 0 (-1)))), (a0, .inr (6, [.ref a1, .int 1, .ref a2, .ref a3, .ref a4]))]) [0, 1] rfl
  have hD9 := hD.sub (ws' := [(a3, .inl (k0, 256, .inl (upd f0 0 (-1)))), (a0, .inr (6, [.ref a1, .int 1, .ref a2, .ref a3, .ref a4]))]) [0, 1] (by decide) rfl
  have hK9 := hK.sub (tys' := [(k0, .int)]) [0] rfl
  exact W.iret (v := (-1)) hx hb hr (fun t ht hW => ⟨⟨(-1), (), rfl, rfl, by rw [ht]; exact hP9, va_K.moved hW.alike hK9, hD9⟩, hS.F ht⟩) hS.2.2 dX6_firstCalled_10
set_option maxHeartbeats 4000000 in
set_option maxRecDepth 100000 in
theorem zX9_eitherOf_3 (l : Launch) (dC : Nat → ClassId) (dI : Nat → Nat → Nat) (adK adV : Nat → Nat) (sz : Nat) (p0 : Int32) : Met l yX9_eitherOf (Cond.code yX9_eitherOf cX9_eitherOf 3 (some .int) :: TB) ({ frames := 1, cells := 0, slots := 0, locals := 100 }) (XP (dC, dI) adK adV [.int p0, .int 0, .int (-1)] sz [] []) (va_Qi (fun (r : Int32) (_ : Unit) => (r = 0 ∧ p0 = 0) ∨ (r = (-1) ∧ p0 = 1) ∨ (r = (-1) ∧ ¬ p0 = 0 ∧ ¬ p0 = 1)) (fun _ t => va_P (dC, dI) CL [] t.heap ∧ va_K (dC, dI) CL [] t ∧ va_D (va_A [] sz) []) (va_A [] sz)) 0 0 (va_A [] sz) := by
  refine Met.ofW (cc := cX9_eitherOf) (maxL := 3) (ret := (some .int)) (by decide) rfl ?_
  intro p e s m args below meth c s₁ B hml hv
  obtain ⟨rfl, hsz, hP, hK, hD0, hC⟩ := hv
  have hx := B.exec
  have hb := B.bytes
  have hr := B.returns
  have hts0 := atoms_spec (ws := Cond.code yX9_eitherOf cX9_eitherOf 3 (some .int) :: TB) B.pre
  have hts : ∀ w ∈ TB, w.before _ s = true := fun w h => hts0 w (List.mem_cons_of_mem _ h)
  have hown : s.vm.findClass RX9 = some m.cls := findClass_of_methodNamed B.named
  have hlocks := B.notSynchronized
  subst hsz
  have hD := hD0.self (sz := s.heap.size)
  generalize hAe : va_A [] s.heap.size = A at hD hC ⊢
  have hA : ∀ q : Nat, s.heap.size ≤ q → A q := fun q h => by rw [← hAe]; exact Or.inr h
  have hl := lv_entry ([.int p0, .int 0, .int (-1)]) (n := 3) (Nat.le_of_ble_eq_true rfl)
  rw [lg_entry_eq]
  generalize (lg_sl ([.int p0, .int 0, .int (-1)]) ++ List.replicate (3 - (lg_sl ([.int p0, .int 0, .int (-1)])).length) Slot.unset).toArray = ls at hl ⊢
  have hl : lv_has ls 3 [(0, .int p0), (1, .int 0), (2, .int (-1))] := hl
  have hP : va_P (dC, dI) CL [] s.heap := hP
  obtain ⟨H, hH⟩ : ∃ z, z = s.heap := ⟨_, rfl⟩
  rw [← hH] at hP ⊢
  have hS : va_S A s.heap H [] := by rw [hH]; exact va_S.rf
  refine lv_iload_n hx hb dX9_eitherOf_0 rfl (lv_at hl 0 rfl) ?_
  by_cases h_1 : p0 = 0
  · subst h_1
    refine lv_lookup (tgt := 28) hx hb dX9_eitherOf_1 (by decide) (off := 27) (by decide) (by decide) ?_
    refine lv_iload_n hx hb dX9_eitherOf_28 rfl (lv_at hl 1 rfl) ?_
    refine W.widen (k := 0) (n := 0) (Nat.le_of_ble_eq_true rfl) (Nat.le_of_ble_eq_true rfl) ?_
    have hP9 := hP.sub (ws' := []) [] rfl
    have hD9 := hD.sub (ws' := []) [] (by decide) rfl
    have hK9 := hK.sub (tys' := []) [] rfl
    exact W.iret (v := 0) hx hb hr (fun t ht hW => ⟨⟨0, (), rfl, (Or.inl ⟨rfl, rfl⟩), by rw [ht]; exact hP9, va_K.moved hW.alike hK9, hD9⟩, hS.F ht⟩) hS.2.2 dX9_eitherOf_29
  by_cases h_2 : p0 = 1
  · subst h_2
    refine lv_lookup (tgt := 30) hx hb dX9_eitherOf_1 (by decide) (off := 29) (by decide) (by decide) ?_
    refine lv_iload_n hx hb dX9_eitherOf_30 rfl (lv_at hl 2 rfl) ?_
    refine W.widen (k := 0) (n := 0) (Nat.le_of_ble_eq_true rfl) (Nat.le_of_ble_eq_true rfl) ?_
    have hP9 := hP.sub (ws' := []) [] rfl
    have hD9 := hD.sub (ws' := []) [] (by decide) rfl
    have hK9 := hK.sub (tys' := []) [] rfl
    exact W.iret (v := (-1)) hx hb hr (fun t ht hW => ⟨⟨(-1), (), rfl, (Or.inr (Or.inl ⟨rfl, rfl⟩)), by rw [ht]; exact hP9, va_K.moved hW.alike hK9, hD9⟩, hS.F ht⟩) hS.2.2 dX9_eitherOf_31
  refine lv_lookup (tgt := 32) hx hb dX9_eitherOf_1 (by decide) (off := 31) ((lv_osw (k := 0) h_1 (by decide)).trans ((lv_osw (k := 1) h_2 (by decide)).trans rfl)) (by decide) ?_
  refine lv_iconst (v := (-1)) hx hb dX9_eitherOf_32 (by decide) ?_
  refine W.widen (k := 0) (n := 0) (Nat.le_of_ble_eq_true rfl) (Nat.le_of_ble_eq_true rfl) ?_
  have hP9 := hP.sub (ws' := []) [] rfl
  have hD9 := hD.sub (ws' := []) [] (by decide) rfl
  have hK9 := hK.sub (tys' := []) [] rfl
  exact W.iret (v := (-1)) hx hb hr (fun t ht hW => ⟨⟨(-1), (), rfl, (Or.inr (Or.inr (⟨rfl, h_1, h_2⟩))), by rw [ht]; exact hP9, va_K.moved hW.alike hK9, hD9⟩, hS.F ht⟩) hS.2.2 dX9_eitherOf_33
set_option maxHeartbeats 4000000 in
set_option maxRecDepth 100000 in
theorem zX9_rounds (l : Launch) (dC : Nat → ClassId) (dI : Nat → Nat → Nat) (adK adV : Nat → Nat) (sz : Nat) (a0 : Nat) (p0 : Int32) (p1 : Int32) (a1 : Nat) (a2 : Nat) (a3 : Nat) (a4 : Nat) (a5 : Nat) (a6 : Nat) (a7 : Nat) (a8 : Nat) (a9 : Nat) (a10 : Nat) (a11 : Nat) (a12 : Nat) (a13 : Nat) (a14 : Nat) (a15 : Nat) (a16 : Nat) (a17 : Nat) (a18 : Nat) (a19 : Nat) (a20 : Nat) (a21 : Nat) (a22 : Nat) (a23 : Nat) (a24 : Nat) (a25 : Nat) (k0 : ClassId) (f0 : Nat → Int32) (k1 : ClassId) (f1 : Nat → Int32) (k2 : ClassId) (f2 : Nat → Int32) : Met l yX9_rounds (Cond.code yX9_rounds cX9_rounds 3 (some .int) :: TB) ({ frames := 4, cells := 0, slots := 0, locals := 165 }) (XP (dC, dI) adK adV [.ref a0, .int p0, .int p1] sz [(a0, .inr (9, [.ref a1, .int 0, .ref a2, .ref a3, .ref a4, .ref a5, .ref a6, .ref a7, .ref a8])), (a2, .inr (0, [.int 0, .int 0, .int 0, .int 0, .int 0, .int 0, .long 0, .ref a9, .ref a10, .ref a11, .ref a12, .ref a13, .ref a14, .ref a15])), (a11, .inr (5, [.ref a16, .int 0])), (a5, .inr (2, [.ref a2, .ref a17, .ref a18, .ref a19, .ref a20, .int 0, .int 0, .ref a21, .ref a22, .long 0, .int 0, .int 0, .int 0, .int (-1)])), (a6, .inr (6, [.ref a5, .int 0, .ref a23, .ref a24, .ref a25])), (a23, .inl (k0, 256, .inl f0)), (a24, .inl (k1, 256, .inl f1)), (a25, .inl (k2, 256, .inl f2))] [(k0, .int), (k1, .int), (k2, .int)]) (va_Qi (fun (r : Int32) (_ : Unit) => r = res_rounds p0 p1) (fun _ _ => True) (va_A [(a0, .inr (9, [.ref a1, .int 0, .ref a2, .ref a3, .ref a4, .ref a5, .ref a6, .ref a7, .ref a8])), (a2, .inr (0, [.int 0, .int 0, .int 0, .int 0, .int 0, .int 0, .long 0, .ref a9, .ref a10, .ref a11, .ref a12, .ref a13, .ref a14, .ref a15])), (a11, .inr (5, [.ref a16, .int 0])), (a5, .inr (2, [.ref a2, .ref a17, .ref a18, .ref a19, .ref a20, .int 0, .int 0, .ref a21, .ref a22, .long 0, .int 0, .int 0, .int 0, .int (-1)])), (a6, .inr (6, [.ref a5, .int 0, .ref a23, .ref a24, .ref a25])), (a23, .inl (k0, 256, .inl f0)), (a24, .inl (k1, 256, .inl f1)), (a25, .inl (k2, 256, .inl f2))] sz)) 0 0 (va_A [(a0, .inr (9, [.ref a1, .int 0, .ref a2, .ref a3, .ref a4, .ref a5, .ref a6, .ref a7, .ref a8])), (a2, .inr (0, [.int 0, .int 0, .int 0, .int 0, .int 0, .int 0, .long 0, .ref a9, .ref a10, .ref a11, .ref a12, .ref a13, .ref a14, .ref a15])), (a11, .inr (5, [.ref a16, .int 0])), (a5, .inr (2, [.ref a2, .ref a17, .ref a18, .ref a19, .ref a20, .int 0, .int 0, .ref a21, .ref a22, .long 0, .int 0, .int 0, .int 0, .int (-1)])), (a6, .inr (6, [.ref a5, .int 0, .ref a23, .ref a24, .ref a25])), (a23, .inl (k0, 256, .inl f0)), (a24, .inl (k1, 256, .inl f1)), (a25, .inl (k2, 256, .inl f2))] sz) := by
  refine Met.ofW (cc := cX9_rounds) (maxL := 3) (ret := (some .int)) (by decide) rfl ?_
  intro p e s m args below meth c s₁ B hml hv
  obtain ⟨rfl, hsz, hP, hK, hD0, hC⟩ := hv
  have hx := B.exec
  have hb := B.bytes
  have hr := B.returns
  have hts0 := atoms_spec (ws := Cond.code yX9_rounds cX9_rounds 3 (some .int) :: TB) B.pre
  have hts : ∀ w ∈ TB, w.before _ s = true := fun w h => hts0 w (List.mem_cons_of_mem _ h)
  have hown : s.vm.findClass RX9 = some m.cls := findClass_of_methodNamed B.named
  have hlocks := B.notSynchronized
  subst hsz
  have hD := hD0.self (sz := s.heap.size)
  generalize hAe : va_A [(a0, .inr (9, [.ref a1, .int 0, .ref a2, .ref a3, .ref a4, .ref a5, .ref a6, .ref a7, .ref a8])), (a2, .inr (0, [.int 0, .int 0, .int 0, .int 0, .int 0, .int 0, .long 0, .ref a9, .ref a10, .ref a11, .ref a12, .ref a13, .ref a14, .ref a15])), (a11, .inr (5, [.ref a16, .int 0])), (a5, .inr (2, [.ref a2, .ref a17, .ref a18, .ref a19, .ref a20, .int 0, .int 0, .ref a21, .ref a22, .long 0, .int 0, .int 0, .int 0, .int (-1)])), (a6, .inr (6, [.ref a5, .int 0, .ref a23, .ref a24, .ref a25])), (a23, .inl (k0, 256, .inl f0)), (a24, .inl (k1, 256, .inl f1)), (a25, .inl (k2, 256, .inl f2))] s.heap.size = A at hD hC ⊢
  have hA : ∀ q : Nat, s.heap.size ≤ q → A q := fun q h => by rw [← hAe]; exact Or.inr h
  have hl := lv_entry ([.ref a0, .int p0, .int p1]) (n := 3) (Nat.le_of_ble_eq_true rfl)
  rw [lg_entry_eq]
  generalize (lg_sl ([.ref a0, .int p0, .int p1]) ++ List.replicate (3 - (lg_sl ([.ref a0, .int p0, .int p1])).length) Slot.unset).toArray = ls at hl ⊢
  have hl : lv_has ls 3 [(0, .ref a0), (1, .int p0), (2, .int p1)] := hl
  have hP : va_P (dC, dI) CL [(a0, .inr (9, [.ref a1, .int 0, .ref a2, .ref a3, .ref a4, .ref a5, .ref a6, .ref a7, .ref a8])), (a2, .inr (0, [.int 0, .int 0, .int 0, .int 0, .int 0, .int 0, .long 0, .ref a9, .ref a10, .ref a11, .ref a12, .ref a13, .ref a14, .ref a15])), (a11, .inr (5, [.ref a16, .int 0])), (a5, .inr (2, [.ref a2, .ref a17, .ref a18, .ref a19, .ref a20, .int 0, .int 0, .ref a21, .ref a22, .long 0, .int 0, .int 0, .int 0, .int (-1)])), (a6, .inr (6, [.ref a5, .int 0, .ref a23, .ref a24, .ref a25])), (a23, .inl (k0, 256, .inl f0)), (a24, .inl (k1, 256, .inl f1)), (a25, .inl (k2, 256, .inl f2))] s.heap := hP
  obtain ⟨H, hH⟩ : ∃ z, z = s.heap := ⟨_, rfl⟩
  rw [← hH] at hP ⊢
  have hS : va_S A s.heap H [] := by rw [hH]; exact va_S.rf
  refine lv_aload_n hx hb dX9_rounds_0 rfl (lv_at hl 0 rfl) ?_
  refine va_get (D := (dC, dI)) (ci := 9) (v := .ref a2) (C := RX9) (T := TX9) (N := 9) hx hb hts iwX9 hown hK hP 0 rfl rfl 2 (by decide) (hts _ mw_558) (fun _ h9 => h9) rfl dX9_rounds_1 ?_
  refine lv_iload_n hx hb dX9_rounds_4 rfl (lv_at hl 1 rfl) ?_
  have hPc := hP.sub (ws' := [(a2, .inr (0, [.int 0, .int 0, .int 0, .int 0, .int 0, .int 0, .long 0, .ref a9, .ref a10, .ref a11, .ref a12, .ref a13, .ref a14, .ref a15])), (a11, .inr (5, [.ref a16, .int 0]))]) [1, 2] rfl
  have hDc := hD.sub (ws' := [(a2, .inr (0, [.int 0, .int 0, .int 0, .int 0, .int 0, .int 0, .long 0, .ref a9, .ref a10, .ref a11, .ref a12, .ref a13, .ref a14, .ref a15])), (a11, .inr (5, [.ref a16, .int 0]))]) [1, 2] (by decide) rfl
  have hKc := hK.sub (tys' := []) [] rfl
  have hFc := va_free (wc := [(a2, .inr (0, [.int 0, .int 0, .int 0, .int 0, .int 0, .int 0, .long 0, .ref a9, .ref a10, .ref a11, .ref a12, .ref a13, .ref a14, .ref a15])), (a11, .inr (5, [.ref a16, .int 0]))]) hD hS hA [1, 2] rfl
  refine va_calli (va_runV (As := [.int p0]) (rest := []) ⟨hx, hb, hml, hown, hts⟩ (zX0_hasDeeds l dC dI adK adV H.size a2 p0 a9 a10 a11 a12 a13 a14 a15 a16) (cwV 1 hts (tb_V mw_1018 mw_1019 mw_1020 mw_100 mw_1021) rfl rfl rfl (by decide +kernel) ⟨Nat.le_of_ble_eq_true rfl, Nat.le_of_ble_eq_true rfl⟩) ⟨XB, va_recv hKc hPc (ci := 0) (q0 := 0) rfl rfl, XQ (av := [.ref a2, .int p0]) hPc hKc hDc hC hS hFc⟩ rfl rfl hl.1 rfl (lv_room (Nat.le_of_ble_eq_true rfl)) dX9_rounds_5 ⟨Nat.le_of_ble_eq_true rfl, Nat.le_of_ble_eq_true rfl⟩) hS (fun q _ h => hFc q h) hFc (fun r_1 u_9 t H1 locs ht hvm hw hB hz1 hk1 hS => ?_)
  try dsimp only at hw
  obtain ⟨hP1, hK1, hD1⟩ := hB
  rw [ht] at hP1
  have hK1 := va_K.moved hvm.symm hK1
  obtain ⟨hP, hD⟩ := va_join (wr := [(a0, .inr (9, [.ref a1, .int 0, .ref a2, .ref a3, .ref a4, .ref a5, .ref a6, .ref a7, .ref a8])), (a5, .inr (2, [.ref a2, .ref a17, .ref a18, .ref a19, .ref a20, .int 0, .int 0, .ref a21, .ref a22, .long 0, .int 0, .int 0, .int 0, .int (-1)])), (a6, .inr (6, [.ref a5, .int 0, .ref a23, .ref a24, .ref a25])), (a23, .inl (k0, 256, .inl f0)), (a24, .inl (k1, 256, .inl f1)), (a25, .inl (k2, 256, .inl f2))]) (w1 := [(a2, .inr (0, [.int 0, .int 0, .int 0, .int 0, .int 0, .int 0, .long 0, .ref a9, .ref a10, .ref a11, .ref a12, .ref a13, .ref a14, .ref a15])), (a11, .inr (5, [.ref a16, .int 0]))]) hP hD [1, 2] [0, 3, 4, 5, 6, 7] rfl rfl (by decide) (by decide) hk1 hFc hP1 hD1
  have hK := (hK.sub (tys' := [(k0, .int), (k1, .int), (k2, .int)]) [0, 1, 2] rfl).app hK1
  generalize H1 = H at hP hS ⊢
  have hP : va_P (dC, dI) CL [(a0, .inr (9, [.ref a1, .int 0, .ref a2, .ref a3, .ref a4, .ref a5, .ref a6, .ref a7, .ref a8])), (a5, .inr (2, [.ref a2, .ref a17, .ref a18, .ref a19, .ref a20, .int 0, .int 0, .ref a21, .ref a22, .long 0, .int 0, .int 0, .int 0, .int (-1)])), (a6, .inr (6, [.ref a5, .int 0, .ref a23, .ref a24, .ref a25])), (a23, .inl (k0, 256, .inl f0)), (a24, .inl (k1, 256, .inl f1)), (a25, .inl (k2, 256, .inl f2)), (a2, .inr (0, [.int 0, .int 0, .int 0, .int 0, .int 0, .int 0, .long 0, .ref a9, .ref a10, .ref a11, .ref a12, .ref a13, .ref a14, .ref a15])), (a11, .inr (5, [.ref a16, .int 0]))] H := hP
  have hD : va_D A [(a0, .inr (9, [.ref a1, .int 0, .ref a2, .ref a3, .ref a4, .ref a5, .ref a6, .ref a7, .ref a8])), (a5, .inr (2, [.ref a2, .ref a17, .ref a18, .ref a19, .ref a20, .int 0, .int 0, .ref a21, .ref a22, .long 0, .int 0, .int 0, .int 0, .int (-1)])), (a6, .inr (6, [.ref a5, .int 0, .ref a23, .ref a24, .ref a25])), (a23, .inl (k0, 256, .inl f0)), (a24, .inl (k1, 256, .inl f1)), (a25, .inl (k2, 256, .inl f2)), (a2, .inr (0, [.int 0, .int 0, .int 0, .int 0, .int 0, .int 0, .long 0, .ref a9, .ref a10, .ref a11, .ref a12, .ref a13, .ref a14, .ref a15])), (a11, .inr (5, [.ref a16, .int 0]))] := hD
  have hK : va_K (dC, dI) CL [(k0, .int), (k1, .int), (k2, .int)] s := hK
  rcases hw with ⟨hw, h_2⟩ | ⟨hw, h_3, h_4⟩ | ⟨hw, h_5⟩
  · subst hw
    refine lv_if_ne (tgt := 13) hx hb dX9_rounds_8 (by decide) (fun h => (h (by decide)).elim) (fun _ => ?_)
    refine lv_iconst (v := (-1)) hx hb dX9_rounds_11 (by decide) ?_
    refine W.widen (k := 0) (n := 0) (Nat.le_of_ble_eq_true rfl) (Nat.le_of_ble_eq_true rfl) ?_
    exact W.iret (v := (-1)) hx hb hr (fun t ht hW => ⟨⟨(-1), (), rfl, (by first | decide | exact (if_pos (by have kh_2 := lt_i h_2; simp only [xi_0] at kh_2; omega)).symm | exact (if_neg (by have kh_2 := lt_i h_2; simp only [xi_0] at kh_2; omega)).symm), trivial⟩, hS.F ht⟩) hS.2.2 dX9_rounds_12
  · subst hw
    refine lv_if_ne (tgt := 13) hx hb dX9_rounds_8 (by decide) (fun h => (h (by decide)).elim) (fun _ => ?_)
    refine lv_iconst (v := (-1)) hx hb dX9_rounds_11 (by decide) ?_
    refine W.widen (k := 0) (n := 0) (Nat.le_of_ble_eq_true rfl) (Nat.le_of_ble_eq_true rfl) ?_
    exact W.iret (v := (-1)) hx hb hr (fun t ht hW => ⟨⟨(-1), (), rfl, (by first | decide | exact (if_pos (by have kh_3 := nlt_i h_3; have kh_4 := le_i h_4; simp only [xi_0, xi_1] at kh_3 kh_4; omega)).symm | exact (if_neg (by have kh_3 := nlt_i h_3; have kh_4 := le_i h_4; simp only [xi_0, xi_1] at kh_3 kh_4; omega)).symm), trivial⟩, hS.F ht⟩) hS.2.2 dX9_rounds_12
  · subst hw
    obtain rfl : p0 = 0 := Int32.toInt_inj.mp (by rw [xi_0]; have kh_5 := eq_i h_5; simp only [xi_0] at kh_5; omega)
    refine lv_if_ne (tgt := 13) hx hb dX9_rounds_8 (by decide) (fun _ => ?_) (fun h => absurd h (by decide))
    refine lv_iload_n hx hb dX9_rounds_13 rfl (lv_at hl 2 rfl) ?_
    refine lv_aload_n hx hb dX9_rounds_14 rfl (lv_at hl 0 rfl) ?_
    refine va_get (D := (dC, dI)) (ci := 9) (v := .ref a6) (C := RX9) (T := TX9) (N := 9) hx hb hts iwX9 hown hK hP 0 rfl rfl 6 (by decide) (hts _ mw_562) (fun _ h9 => h9) rfl dX9_rounds_15 ?_
    refine lv_iload_n hx hb dX9_rounds_18 rfl (lv_at hl 1 rfl) ?_
    have hPc := hP.sub (ws' := [(a5, .inr (2, [.ref a2, .ref a17, .ref a18, .ref a19, .ref a20, .int 0, .int 0, .ref a21, .ref a22, .long 0, .int 0, .int 0, .int 0, .int (-1)])), (a6, .inr (6, [.ref a5, .int 0, .ref a23, .ref a24, .ref a25])), (a23, .inl (k0, 256, .inl f0)), (a24, .inl (k1, 256, .inl f1)), (a25, .inl (k2, 256, .inl f2)), (a2, .inr (0, [.int 0, .int 0, .int 0, .int 0, .int 0, .int 0, .long 0, .ref a9, .ref a10, .ref a11, .ref a12, .ref a13, .ref a14, .ref a15])), (a11, .inr (5, [.ref a16, .int 0]))]) [1, 2, 3, 4, 5, 6, 7] rfl
    have hDc := hD.sub (ws' := [(a5, .inr (2, [.ref a2, .ref a17, .ref a18, .ref a19, .ref a20, .int 0, .int 0, .ref a21, .ref a22, .long 0, .int 0, .int 0, .int 0, .int (-1)])), (a6, .inr (6, [.ref a5, .int 0, .ref a23, .ref a24, .ref a25])), (a23, .inl (k0, 256, .inl f0)), (a24, .inl (k1, 256, .inl f1)), (a25, .inl (k2, 256, .inl f2)), (a2, .inr (0, [.int 0, .int 0, .int 0, .int 0, .int 0, .int 0, .long 0, .ref a9, .ref a10, .ref a11, .ref a12, .ref a13, .ref a14, .ref a15])), (a11, .inr (5, [.ref a16, .int 0]))]) [1, 2, 3, 4, 5, 6, 7] (by decide) rfl
    have hKc := hK.sub (tys' := [(k0, .int), (k1, .int), (k2, .int)]) [0, 1, 2] rfl
    have hFc := va_free (wc := [(a5, .inr (2, [.ref a2, .ref a17, .ref a18, .ref a19, .ref a20, .int 0, .int 0, .ref a21, .ref a22, .long 0, .int 0, .int 0, .int 0, .int (-1)])), (a6, .inr (6, [.ref a5, .int 0, .ref a23, .ref a24, .ref a25])), (a23, .inl (k0, 256, .inl f0)), (a24, .inl (k1, 256, .inl f1)), (a25, .inl (k2, 256, .inl f2)), (a2, .inr (0, [.int 0, .int 0, .int 0, .int 0, .int 0, .int 0, .long 0, .ref a9, .ref a10, .ref a11, .ref a12, .ref a13, .ref a14, .ref a15])), (a11, .inr (5, [.ref a16, .int 0]))]) hD hS hA [1, 2, 3, 4, 5, 6, 7] rfl
    refine va_calli (va_runV (As := [.int 0]) (rest := [.int p1]) ⟨hx, hb, hml, hown, hts⟩ (zX6_feesByRounds l dC dI adK adV H.size a6 a5 a2 a17 a18 a19 a20 a21 a22 a23 a24 a25 k0 f0 k1 f1 k2 f2 a9 a10 a11 a12 a13 a14 a15 a16) (cwV 1 hts (tb_V mw_1074 mw_1075 mw_1076 mw_113 mw_1077) rfl rfl rfl (by decide +kernel) ⟨Nat.le_of_ble_eq_true rfl, Nat.le_of_ble_eq_true rfl⟩) ⟨XB, va_recv hKc hPc (ci := 6) (q0 := 1) rfl rfl, XQ (av := [.ref a6, .int 0]) hPc hKc hDc hC hS hFc⟩ rfl rfl hl.1 rfl (lv_room (Nat.le_of_ble_eq_true rfl)) dX9_rounds_19 ⟨Nat.le_of_ble_eq_true rfl, Nat.le_of_ble_eq_true rfl⟩) hS (fun q _ h => hFc q h) hFc (fun r_6 u_9 t H1 locs ht hvm hw hB hz1 hk1 hS => ?_)
    try dsimp only at hw
    obtain ⟨hP1, hK1, hD1⟩ := hB
    rw [ht] at hP1
    have hK1 := va_K.moved hvm.symm hK1
    obtain ⟨hP, hD⟩ := va_join (wr := [(a0, .inr (9, [.ref a1, .int 0, .ref a2, .ref a3, .ref a4, .ref a5, .ref a6, .ref a7, .ref a8]))]) (w1 := [(a5, .inr (2, [.ref a2, .ref a17, .ref a18, .ref a19, .ref a20, .int 0, .int 0, .ref a21, .ref a22, .long 0, .int 0, .int 0, .int 0, .int (-1)])), (a6, .inr (6, [.ref a5, .int 1, .ref a23, .ref a24, .ref a25])), (a23, .inl (k0, 256, .inl (upd f0 0 0))), (a24, .inl (k1, 256, .inl (upd f1 0 (-1)))), (a25, .inl (k2, 256, .inl (upd f2 0 0))), (a2, .inr (0, [.int 0, .int 0, .int 0, .int 0, .int 0, .int 0, .long 0, .ref a9, .ref a10, .ref a11, .ref a12, .ref a13, .ref a14, .ref a15])), (a11, .inr (5, [.ref a16, .int 0]))]) hP hD [1, 2, 3, 4, 5, 6, 7] [0] rfl rfl (by decide) (by decide) hk1 hFc hP1 hD1
    have hK := (hK.sub (tys' := []) [] rfl).app hK1
    generalize H1 = H at hP hS ⊢
    have hP : va_P (dC, dI) CL [(a0, .inr (9, [.ref a1, .int 0, .ref a2, .ref a3, .ref a4, .ref a5, .ref a6, .ref a7, .ref a8])), (a5, .inr (2, [.ref a2, .ref a17, .ref a18, .ref a19, .ref a20, .int 0, .int 0, .ref a21, .ref a22, .long 0, .int 0, .int 0, .int 0, .int (-1)])), (a6, .inr (6, [.ref a5, .int 1, .ref a23, .ref a24, .ref a25])), (a23, .inl (k0, 256, .inl (upd f0 0 0))), (a24, .inl (k1, 256, .inl (upd f1 0 (-1)))), (a25, .inl (k2, 256, .inl (upd f2 0 0))), (a2, .inr (0, [.int 0, .int 0, .int 0, .int 0, .int 0, .int 0, .long 0, .ref a9, .ref a10, .ref a11, .ref a12, .ref a13, .ref a14, .ref a15])), (a11, .inr (5, [.ref a16, .int 0]))] H := hP
    have hD : va_D A [(a0, .inr (9, [.ref a1, .int 0, .ref a2, .ref a3, .ref a4, .ref a5, .ref a6, .ref a7, .ref a8])), (a5, .inr (2, [.ref a2, .ref a17, .ref a18, .ref a19, .ref a20, .int 0, .int 0, .ref a21, .ref a22, .long 0, .int 0, .int 0, .int 0, .int (-1)])), (a6, .inr (6, [.ref a5, .int 1, .ref a23, .ref a24, .ref a25])), (a23, .inl (k0, 256, .inl (upd f0 0 0))), (a24, .inl (k1, 256, .inl (upd f1 0 (-1)))), (a25, .inl (k2, 256, .inl (upd f2 0 0))), (a2, .inr (0, [.int 0, .int 0, .int 0, .int 0, .int 0, .int 0, .long 0, .ref a9, .ref a10, .ref a11, .ref a12, .ref a13, .ref a14, .ref a15])), (a11, .inr (5, [.ref a16, .int 0]))] := hD
    have hK : va_K (dC, dI) CL [(k0, .int), (k1, .int), (k2, .int)] s := hK
    subst hw
    refine lv_aload_n hx hb dX9_rounds_22 rfl (lv_at hl 0 rfl) ?_
    refine va_get (D := (dC, dI)) (ci := 9) (v := .ref a6) (C := RX9) (T := TX9) (N := 9) hx hb hts iwX9 hown hK hP 0 rfl rfl 6 (by decide) (hts _ mw_562) (fun _ h9 => h9) rfl dX9_rounds_23 ?_
    refine lv_iload_n hx hb dX9_rounds_26 rfl (lv_at hl 1 rfl) ?_
    have hPc := hP.sub (ws' := [(a6, .inr (6, [.ref a5, .int 1, .ref a23, .ref a24, .ref a25])), (a24, .inl (k1, 256, .inl (upd f1 0 (-1))))]) [2, 4] rfl
    have hDc := hD.sub (ws' := [(a6, .inr (6, [.ref a5, .int 1, .ref a23, .ref a24, .ref a25])), (a24, .inl (k1, 256, .inl (upd f1 0 (-1))))]) [2, 4] (by decide) rfl
    have hKc := hK.sub (tys' := [(k1, .int)]) [1] rfl
    have hFc := va_free (wc := [(a6, .inr (6, [.ref a5, .int 1, .ref a23, .ref a24, .ref a25])), (a24, .inl (k1, 256, .inl (upd f1 0 (-1))))]) hD hS hA [2, 4] rfl
    refine va_calli (va_runV (As := [.int 0]) (rest := [.int 0, .int p1]) ⟨hx, hb, hml, hown, hts⟩ (zX6_firstCalled l dC dI adK adV H.size a6 a5 a23 a24 a25 k1 f1) (cwV 1 hts (tb_V mw_1078 mw_1079 mw_1080 mw_113 mw_1081) rfl rfl rfl (by decide +kernel) ⟨Nat.le_of_ble_eq_true rfl, Nat.le_of_ble_eq_true rfl⟩) ⟨XB, va_recv hKc hPc (ci := 6) (q0 := 0) rfl rfl, XQ (av := [.ref a6, .int 0]) hPc hKc hDc hC hS hFc⟩ rfl rfl hl.1 rfl (lv_room (Nat.le_of_ble_eq_true rfl)) dX9_rounds_27 ⟨Nat.le_of_ble_eq_true rfl, Nat.le_of_ble_eq_true rfl⟩) hS (fun q _ h => hFc q h) hFc (fun r_7 u_9 t H1 locs ht hvm hw hB hz1 hk1 hS => ?_)
    try dsimp only at hw
    obtain ⟨hP1, hK1, hD1⟩ := hB
    rw [ht] at hP1
    have hK1 := va_K.moved hvm.symm hK1
    obtain ⟨hP, hD⟩ := va_join (wr := [(a0, .inr (9, [.ref a1, .int 0, .ref a2, .ref a3, .ref a4, .ref a5, .ref a6, .ref a7, .ref a8])), (a5, .inr (2, [.ref a2, .ref a17, .ref a18, .ref a19, .ref a20, .int 0, .int 0, .ref a21, .ref a22, .long 0, .int 0, .int 0, .int 0, .int (-1)])), (a23, .inl (k0, 256, .inl (upd f0 0 0))), (a25, .inl (k2, 256, .inl (upd f2 0 0))), (a2, .inr (0, [.int 0, .int 0, .int 0, .int 0, .int 0, .int 0, .long 0, .ref a9, .ref a10, .ref a11, .ref a12, .ref a13, .ref a14, .ref a15])), (a11, .inr (5, [.ref a16, .int 0]))]) (w1 := [(a24, .inl (k1, 256, .inl (upd f1 0 (-1)))), (a6, .inr (6, [.ref a5, .int 1, .ref a23, .ref a24, .ref a25]))]) hP hD [2, 4] [0, 1, 3, 5, 6, 7] rfl rfl (by decide) (by decide) hk1 hFc hP1 hD1
    have hK := (hK.sub (tys' := [(k0, .int), (k2, .int)]) [0, 2] rfl).app hK1
    generalize H1 = H at hP hS ⊢
    have hP : va_P (dC, dI) CL [(a0, .inr (9, [.ref a1, .int 0, .ref a2, .ref a3, .ref a4, .ref a5, .ref a6, .ref a7, .ref a8])), (a5, .inr (2, [.ref a2, .ref a17, .ref a18, .ref a19, .ref a20, .int 0, .int 0, .ref a21, .ref a22, .long 0, .int 0, .int 0, .int 0, .int (-1)])), (a23, .inl (k0, 256, .inl (upd f0 0 0))), (a25, .inl (k2, 256, .inl (upd f2 0 0))), (a2, .inr (0, [.int 0, .int 0, .int 0, .int 0, .int 0, .int 0, .long 0, .ref a9, .ref a10, .ref a11, .ref a12, .ref a13, .ref a14, .ref a15])), (a11, .inr (5, [.ref a16, .int 0])), (a24, .inl (k1, 256, .inl (upd f1 0 (-1)))), (a6, .inr (6, [.ref a5, .int 1, .ref a23, .ref a24, .ref a25]))] H := hP
    have hD : va_D A [(a0, .inr (9, [.ref a1, .int 0, .ref a2, .ref a3, .ref a4, .ref a5, .ref a6, .ref a7, .ref a8])), (a5, .inr (2, [.ref a2, .ref a17, .ref a18, .ref a19, .ref a20, .int 0, .int 0, .ref a21, .ref a22, .long 0, .int 0, .int 0, .int 0, .int (-1)])), (a23, .inl (k0, 256, .inl (upd f0 0 0))), (a25, .inl (k2, 256, .inl (upd f2 0 0))), (a2, .inr (0, [.int 0, .int 0, .int 0, .int 0, .int 0, .int 0, .long 0, .ref a9, .ref a10, .ref a11, .ref a12, .ref a13, .ref a14, .ref a15])), (a11, .inr (5, [.ref a16, .int 0])), (a24, .inl (k1, 256, .inl (upd f1 0 (-1)))), (a6, .inr (6, [.ref a5, .int 1, .ref a23, .ref a24, .ref a25]))] := hD
    have hK : va_K (dC, dI) CL [(k0, .int), (k2, .int), (k1, .int)] s := hK
    subst hw
    have hPc := hP.sub (ws' := []) [] rfl
    have hDc := hD.sub (ws' := []) [] (by decide) rfl
    have hKc := hK.sub (tys' := []) [] rfl
    have hFc := va_free (wc := []) hD hS hA [] rfl
    refine va_calli (va_runS (As := [.int p1, .int 0, .int (-1)]) (rest := []) ⟨hx, hb, hml, hown, hts⟩ (zX9_eitherOf_3 l dC dI adK adV H.size p1) (va_cwS 3 hts (tb_S mw_952 mw_953 mw_99 mw_954) rfl rfl rfl (by decide +kernel) ⟨Nat.le_of_ble_eq_true rfl, Nat.le_of_ble_eq_true rfl⟩) ⟨XB, XQ (av := [.int p1, .int 0, .int (-1)]) hPc hKc hDc hC hS hFc⟩ rfl rfl hl.1 rfl (lv_room (Nat.le_of_ble_eq_true rfl)) dX9_rounds_30 ⟨Nat.le_of_ble_eq_true rfl, Nat.le_of_ble_eq_true rfl⟩) hS (fun q _ h => hFc q h) hFc (fun r_8 u_9 t H1 locs ht hvm hw hB hz1 hk1 hS => ?_)
    try dsimp only at hw
    obtain ⟨hP1, hK1, hD1⟩ := hB
    rw [ht] at hP1
    have hK1 := va_K.moved hvm.symm hK1
    obtain ⟨hP, hD⟩ := va_join (wr := [(a0, .inr (9, [.ref a1, .int 0, .ref a2, .ref a3, .ref a4, .ref a5, .ref a6, .ref a7, .ref a8])), (a5, .inr (2, [.ref a2, .ref a17, .ref a18, .ref a19, .ref a20, .int 0, .int 0, .ref a21, .ref a22, .long 0, .int 0, .int 0, .int 0, .int (-1)])), (a23, .inl (k0, 256, .inl (upd f0 0 0))), (a25, .inl (k2, 256, .inl (upd f2 0 0))), (a2, .inr (0, [.int 0, .int 0, .int 0, .int 0, .int 0, .int 0, .long 0, .ref a9, .ref a10, .ref a11, .ref a12, .ref a13, .ref a14, .ref a15])), (a11, .inr (5, [.ref a16, .int 0])), (a24, .inl (k1, 256, .inl (upd f1 0 (-1)))), (a6, .inr (6, [.ref a5, .int 1, .ref a23, .ref a24, .ref a25]))]) (w1 := []) hP hD [] [0, 1, 2, 3, 4, 5, 6, 7] rfl rfl (by decide) (by decide) hk1 hFc hP1 hD1
    have hK := (hK.sub (tys' := [(k0, .int), (k2, .int), (k1, .int)]) [0, 1, 2] rfl).app hK1
    generalize H1 = H at hP hS ⊢
    have hP : va_P (dC, dI) CL [(a0, .inr (9, [.ref a1, .int 0, .ref a2, .ref a3, .ref a4, .ref a5, .ref a6, .ref a7, .ref a8])), (a5, .inr (2, [.ref a2, .ref a17, .ref a18, .ref a19, .ref a20, .int 0, .int 0, .ref a21, .ref a22, .long 0, .int 0, .int 0, .int 0, .int (-1)])), (a23, .inl (k0, 256, .inl (upd f0 0 0))), (a25, .inl (k2, 256, .inl (upd f2 0 0))), (a2, .inr (0, [.int 0, .int 0, .int 0, .int 0, .int 0, .int 0, .long 0, .ref a9, .ref a10, .ref a11, .ref a12, .ref a13, .ref a14, .ref a15])), (a11, .inr (5, [.ref a16, .int 0])), (a24, .inl (k1, 256, .inl (upd f1 0 (-1)))), (a6, .inr (6, [.ref a5, .int 1, .ref a23, .ref a24, .ref a25]))] H := hP
    have hD : va_D A [(a0, .inr (9, [.ref a1, .int 0, .ref a2, .ref a3, .ref a4, .ref a5, .ref a6, .ref a7, .ref a8])), (a5, .inr (2, [.ref a2, .ref a17, .ref a18, .ref a19, .ref a20, .int 0, .int 0, .ref a21, .ref a22, .long 0, .int 0, .int 0, .int 0, .int (-1)])), (a23, .inl (k0, 256, .inl (upd f0 0 0))), (a25, .inl (k2, 256, .inl (upd f2 0 0))), (a2, .inr (0, [.int 0, .int 0, .int 0, .int 0, .int 0, .int 0, .long 0, .ref a9, .ref a10, .ref a11, .ref a12, .ref a13, .ref a14, .ref a15])), (a11, .inr (5, [.ref a16, .int 0])), (a24, .inl (k1, 256, .inl (upd f1 0 (-1)))), (a6, .inr (6, [.ref a5, .int 1, .ref a23, .ref a24, .ref a25]))] := hD
    have hK : va_K (dC, dI) CL [(k0, .int), (k2, .int), (k1, .int)] s := hK
    rcases hw with ⟨hw, h_9⟩ | ⟨hw, h_10⟩ | ⟨hw, h_11, h_12⟩
    · subst hw
      obtain rfl : p1 = 0 := Int32.toInt_inj.mp (by rw [xi_0]; have kh_9 := eq_i h_9; simp only [xi_0] at kh_9; omega)
      refine W.widen (k := 0) (n := 0) (Nat.le_of_ble_eq_true rfl) (Nat.le_of_ble_eq_true rfl) ?_
      exact W.iret (v := 0) hx hb hr (fun t ht hW => ⟨⟨0, (), rfl, (by first | decide | exact (if_pos (by omega)).symm | exact (if_neg (by omega)).symm), trivial⟩, hS.F ht⟩) hS.2.2 dX9_rounds_33
    · subst hw
      obtain rfl : p1 = 1 := Int32.toInt_inj.mp (by rw [xi_1]; have kh_10 := eq_i h_10; simp only [xi_1] at kh_10; omega)
      refine W.widen (k := 0) (n := 0) (Nat.le_of_ble_eq_true rfl) (Nat.le_of_ble_eq_true rfl) ?_
      exact W.iret (v := (-1)) hx hb hr (fun t ht hW => ⟨⟨(-1), (), rfl, (by first | decide | exact (if_pos (by omega)).symm | exact (if_neg (by omega)).symm), trivial⟩, hS.F ht⟩) hS.2.2 dX9_rounds_33
    · subst hw
      refine W.widen (k := 0) (n := 0) (Nat.le_of_ble_eq_true rfl) (Nat.le_of_ble_eq_true rfl) ?_
      exact W.iret (v := (-1)) hx hb hr (fun t ht hW => ⟨⟨(-1), (), rfl, (by first | decide | exact (if_pos (by have kh_11 := ne_i h_11; have kh_12 := ne_i h_12; simp only [xi_0, xi_1] at kh_11 kh_12; omega)).symm | exact (if_neg (by have kh_11 := ne_i h_11; have kh_12 := ne_i h_12; simp only [xi_0, xi_1] at kh_11 kh_12; omega)).symm), trivial⟩, hS.F ht⟩) hS.2.2 dX9_rounds_33
set_option maxHeartbeats 4000000 in
set_option maxRecDepth 100000 in
theorem zX7_copy (l : Launch) (dC : Nat → ClassId) (dI : Nat → Nat → Nat) (adK adV : Nat → Nat) (sz : Nat) (a0 : Nat) (a1 : Nat) (a2 : Nat) (a3 : Nat) (a4 : Nat) (a5 : Nat) (a6 : Nat) (a7 : Nat) (k0 : ClassId) (f0 : Nat → Int32) (k1 : ClassId) (f1 : Nat → Int32) (k2 : ClassId) (f2 : Nat → Int32) (k3 : ClassId) (f3 : Nat → Int32) (k4 : ClassId) (f4 : Nat → Int32) (k5 : ClassId) (f5 : Nat → Int32) (a8 : Nat) (a9 : Nat) (a10 : Nat) (a11 : Nat) (a12 : Nat) (a13 : Nat) (k6 : ClassId) (f6 : Nat → Int32) (k7 : ClassId) (f7 : Nat → Int32) (k8 : ClassId) (f8 : Nat → Int32) (k9 : ClassId) (f9 : Nat → Int32) (k10 : ClassId) (f10 : Nat → Int32) (k11 : ClassId) (f11 : Nat → Int32) : Met l yX7_copy (Cond.code yX7_copy cX7_copy 2 none :: TB) ({ frames := 1, cells := 0, slots := 0, locals := 100 }) (XP (dC, dI) adK adV [.ref a0, .ref a1] sz [(a1, .inr (7, [.ref a2, .ref a3, .ref a4, .ref a5, .ref a6, .ref a7, .int 0, .int 0, .int 0])), (a2, .inl (k0, 40, .inl f0)), (a3, .inl (k1, 40, .inl f1)), (a4, .inl (k2, 40, .inl f2)), (a5, .inl (k3, 40, .inl f3)), (a6, .inl (k4, 40, .inl f4)), (a7, .inl (k5, 40, .inl f5)), (a0, .inr (7, [.ref a8, .ref a9, .ref a10, .ref a11, .ref a12, .ref a13, .int 0, .int 0, .int 0])), (a8, .inl (k6, 40, .inl f6)), (a9, .inl (k7, 40, .inl f7)), (a10, .inl (k8, 40, .inl f8)), (a11, .inl (k9, 40, .inl f9)), (a12, .inl (k10, 40, .inl f10)), (a13, .inl (k11, 40, .inl f11))] [(k0, .int), (k1, .int), (k2, .int), (k3, .int), (k4, .int), (k5, .int), (k6, .int), (k7, .int), (k8, .int), (k9, .int), (k10, .int), (k11, .int)]) (va_Qv (fun _ : Unit => True) (fun _ t => ∃ f_1 : Nat → Int32, ∃ f_2 : Nat → Int32, ∃ f_3 : Nat → Int32, ∃ f_4 : Nat → Int32, ∃ f_5 : Nat → Int32, ∃ f_6 : Nat → Int32, va_P (dC, dI) CL [(a1, .inr (7, [.ref a2, .ref a3, .ref a4, .ref a5, .ref a6, .ref a7, .int 0, .int 0, .int 0])), (a2, .inl (k0, 40, .inl f0)), (a3, .inl (k1, 40, .inl f1)), (a4, .inl (k2, 40, .inl f2)), (a5, .inl (k3, 40, .inl f3)), (a6, .inl (k4, 40, .inl f4)), (a7, .inl (k5, 40, .inl f5)), (a0, .inr (7, [.ref a8, .ref a9, .ref a10, .ref a11, .ref a12, .ref a13, .int 0, .int 0, .int 0])), (a8, .inl (k6, 40, .inl f_1)), (a9, .inl (k7, 40, .inl f_2)), (a10, .inl (k8, 40, .inl f_3)), (a11, .inl (k9, 40, .inl f_4)), (a12, .inl (k10, 40, .inl f_5)), (a13, .inl (k11, 40, .inl f_6))] t.heap ∧ va_K (dC, dI) CL [(k0, .int), (k1, .int), (k2, .int), (k3, .int), (k4, .int), (k5, .int), (k6, .int), (k7, .int), (k8, .int), (k9, .int), (k10, .int), (k11, .int)] t ∧ va_D (va_A [(a1, .inr (7, [.ref a2, .ref a3, .ref a4, .ref a5, .ref a6, .ref a7, .int 0, .int 0, .int 0])), (a2, .inl (k0, 40, .inl f0)), (a3, .inl (k1, 40, .inl f1)), (a4, .inl (k2, 40, .inl f2)), (a5, .inl (k3, 40, .inl f3)), (a6, .inl (k4, 40, .inl f4)), (a7, .inl (k5, 40, .inl f5)), (a0, .inr (7, [.ref a8, .ref a9, .ref a10, .ref a11, .ref a12, .ref a13, .int 0, .int 0, .int 0])), (a8, .inl (k6, 40, .inl f6)), (a9, .inl (k7, 40, .inl f7)), (a10, .inl (k8, 40, .inl f8)), (a11, .inl (k9, 40, .inl f9)), (a12, .inl (k10, 40, .inl f10)), (a13, .inl (k11, 40, .inl f11))] sz) [(a1, .inr (7, [.ref a2, .ref a3, .ref a4, .ref a5, .ref a6, .ref a7, .int 0, .int 0, .int 0])), (a2, .inl (k0, 40, .inl f0)), (a3, .inl (k1, 40, .inl f1)), (a4, .inl (k2, 40, .inl f2)), (a5, .inl (k3, 40, .inl f3)), (a6, .inl (k4, 40, .inl f4)), (a7, .inl (k5, 40, .inl f5)), (a0, .inr (7, [.ref a8, .ref a9, .ref a10, .ref a11, .ref a12, .ref a13, .int 0, .int 0, .int 0])), (a8, .inl (k6, 40, .inl f_1)), (a9, .inl (k7, 40, .inl f_2)), (a10, .inl (k8, 40, .inl f_3)), (a11, .inl (k9, 40, .inl f_4)), (a12, .inl (k10, 40, .inl f_5)), (a13, .inl (k11, 40, .inl f_6))]) (va_A [(a1, .inr (7, [.ref a2, .ref a3, .ref a4, .ref a5, .ref a6, .ref a7, .int 0, .int 0, .int 0])), (a2, .inl (k0, 40, .inl f0)), (a3, .inl (k1, 40, .inl f1)), (a4, .inl (k2, 40, .inl f2)), (a5, .inl (k3, 40, .inl f3)), (a6, .inl (k4, 40, .inl f4)), (a7, .inl (k5, 40, .inl f5)), (a0, .inr (7, [.ref a8, .ref a9, .ref a10, .ref a11, .ref a12, .ref a13, .int 0, .int 0, .int 0])), (a8, .inl (k6, 40, .inl f6)), (a9, .inl (k7, 40, .inl f7)), (a10, .inl (k8, 40, .inl f8)), (a11, .inl (k9, 40, .inl f9)), (a12, .inl (k10, 40, .inl f10)), (a13, .inl (k11, 40, .inl f11))] sz)) 0 0 (va_A [(a1, .inr (7, [.ref a2, .ref a3, .ref a4, .ref a5, .ref a6, .ref a7, .int 0, .int 0, .int 0])), (a2, .inl (k0, 40, .inl f0)), (a3, .inl (k1, 40, .inl f1)), (a4, .inl (k2, 40, .inl f2)), (a5, .inl (k3, 40, .inl f3)), (a6, .inl (k4, 40, .inl f4)), (a7, .inl (k5, 40, .inl f5)), (a0, .inr (7, [.ref a8, .ref a9, .ref a10, .ref a11, .ref a12, .ref a13, .int 0, .int 0, .int 0])), (a8, .inl (k6, 40, .inl f6)), (a9, .inl (k7, 40, .inl f7)), (a10, .inl (k8, 40, .inl f8)), (a11, .inl (k9, 40, .inl f9)), (a12, .inl (k10, 40, .inl f10)), (a13, .inl (k11, 40, .inl f11))] sz) := by
  refine Met.ofW (cc := cX7_copy) (maxL := 2) (ret := none) (by decide) rfl ?_
  intro p e s m args below meth c s₁ B hml hv
  obtain ⟨rfl, hsz, hP, hK, hD0, hC⟩ := hv
  have hx := B.exec
  have hb := B.bytes
  have hr := B.returns
  have hts0 := atoms_spec (ws := Cond.code yX7_copy cX7_copy 2 none :: TB) B.pre
  have hts : ∀ w ∈ TB, w.before _ s = true := fun w h => hts0 w (List.mem_cons_of_mem _ h)
  have hown : s.vm.findClass RX7 = some m.cls := findClass_of_methodNamed B.named
  have hlocks := B.notSynchronized
  subst hsz
  have hD := hD0.self (sz := s.heap.size)
  generalize hAe : va_A [(a1, .inr (7, [.ref a2, .ref a3, .ref a4, .ref a5, .ref a6, .ref a7, .int 0, .int 0, .int 0])), (a2, .inl (k0, 40, .inl f0)), (a3, .inl (k1, 40, .inl f1)), (a4, .inl (k2, 40, .inl f2)), (a5, .inl (k3, 40, .inl f3)), (a6, .inl (k4, 40, .inl f4)), (a7, .inl (k5, 40, .inl f5)), (a0, .inr (7, [.ref a8, .ref a9, .ref a10, .ref a11, .ref a12, .ref a13, .int 0, .int 0, .int 0])), (a8, .inl (k6, 40, .inl f6)), (a9, .inl (k7, 40, .inl f7)), (a10, .inl (k8, 40, .inl f8)), (a11, .inl (k9, 40, .inl f9)), (a12, .inl (k10, 40, .inl f10)), (a13, .inl (k11, 40, .inl f11))] s.heap.size = A at hD hC ⊢
  have hA : ∀ q : Nat, s.heap.size ≤ q → A q := fun q h => by rw [← hAe]; exact Or.inr h
  have hl := lv_entry ([.ref a0, .ref a1]) (n := 2) (Nat.le_of_ble_eq_true rfl)
  rw [lg_entry_eq]
  generalize (lg_sl ([.ref a0, .ref a1]) ++ List.replicate (2 - (lg_sl ([.ref a0, .ref a1])).length) Slot.unset).toArray = ls at hl ⊢
  have hl : lv_has ls 2 [(0, .ref a0), (1, .ref a1)] := hl
  have hP : va_P (dC, dI) CL [(a1, .inr (7, [.ref a2, .ref a3, .ref a4, .ref a5, .ref a6, .ref a7, .int 0, .int 0, .int 0])), (a2, .inl (k0, 40, .inl f0)), (a3, .inl (k1, 40, .inl f1)), (a4, .inl (k2, 40, .inl f2)), (a5, .inl (k3, 40, .inl f3)), (a6, .inl (k4, 40, .inl f4)), (a7, .inl (k5, 40, .inl f5)), (a0, .inr (7, [.ref a8, .ref a9, .ref a10, .ref a11, .ref a12, .ref a13, .int 0, .int 0, .int 0])), (a8, .inl (k6, 40, .inl f6)), (a9, .inl (k7, 40, .inl f7)), (a10, .inl (k8, 40, .inl f8)), (a11, .inl (k9, 40, .inl f9)), (a12, .inl (k10, 40, .inl f10)), (a13, .inl (k11, 40, .inl f11))] s.heap := hP
  obtain ⟨H, hH⟩ : ∃ z, z = s.heap := ⟨_, rfl⟩
  rw [← hH] at hP ⊢
  have hS : va_S A s.heap H [] := by rw [hH]; exact va_S.rf
  refine lv_aload_n hx hb dX7_copy_0 rfl (lv_at hl 1 rfl) ?_
  refine va_get (D := (dC, dI)) (ci := 7) (v := .ref a2) (C := RX7) (T := TX7) (N := 9) hx hb hts iwX7 hown hK hP 0 rfl rfl 0 (by decide) (hts _ mw_519) (fun _ h9 => h9) rfl dX7_copy_1 ?_
  refine lv_iconst (v := 0) hx hb dX7_copy_4 (by decide) ?_
  refine lv_aload_n hx hb dX7_copy_5 rfl (lv_at hl 0 rfl) ?_
  refine va_get (D := (dC, dI)) (ci := 7) (v := .ref a8) (C := RX7) (T := TX7) (N := 9) hx hb hts iwX7 hown hK hP 7 rfl rfl 0 (by decide) (hts _ mw_519) (fun _ h9 => h9) rfl dX7_copy_6 ?_
  refine lv_iconst (v := 0) hx hb dX7_copy_9 (by decide) ?_
  refine lv_bipush (v := 40) hx hb dX7_copy_10 (by decide) ?_
  refine va_copyi hx hb (by rw [hml]; exact hl.1.symm) hown (hts _ mw_1090) (hts _ mw_1092) (hts _ mw_1091) (hts _ mw_118) hK hP hD hS 1 8 0 6 rfl rfl rfl rfl rfl (by decide) (by decide) (by decide) (by decide) (by decide) (fun _ _ => rfl) (Nat.le_of_ble_eq_true rfl) (Nat.le_of_ble_eq_true rfl) dX7_copy_12 (fun H locs hP hD hS => ?_)
  generalize va_cpy _ _ _ _ _ = f_1 at hP hD
  have hP : va_P (dC, dI) CL [(a1, .inr (7, [.ref a2, .ref a3, .ref a4, .ref a5, .ref a6, .ref a7, .int 0, .int 0, .int 0])), (a2, .inl (k0, 40, .inl f0)), (a3, .inl (k1, 40, .inl f1)), (a4, .inl (k2, 40, .inl f2)), (a5, .inl (k3, 40, .inl f3)), (a6, .inl (k4, 40, .inl f4)), (a7, .inl (k5, 40, .inl f5)), (a0, .inr (7, [.ref a8, .ref a9, .ref a10, .ref a11, .ref a12, .ref a13, .int 0, .int 0, .int 0])), (a8, .inl (k6, 40, .inl f_1)), (a9, .inl (k7, 40, .inl f7)), (a10, .inl (k8, 40, .inl f8)), (a11, .inl (k9, 40, .inl f9)), (a12, .inl (k10, 40, .inl f10)), (a13, .inl (k11, 40, .inl f11))] H := hP
  have hD : va_D A [(a1, .inr (7, [.ref a2, .ref a3, .ref a4, .ref a5, .ref a6, .ref a7, .int 0, .int 0, .int 0])), (a2, .inl (k0, 40, .inl f0)), (a3, .inl (k1, 40, .inl f1)), (a4, .inl (k2, 40, .inl f2)), (a5, .inl (k3, 40, .inl f3)), (a6, .inl (k4, 40, .inl f4)), (a7, .inl (k5, 40, .inl f5)), (a0, .inr (7, [.ref a8, .ref a9, .ref a10, .ref a11, .ref a12, .ref a13, .int 0, .int 0, .int 0])), (a8, .inl (k6, 40, .inl f_1)), (a9, .inl (k7, 40, .inl f7)), (a10, .inl (k8, 40, .inl f8)), (a11, .inl (k9, 40, .inl f9)), (a12, .inl (k10, 40, .inl f10)), (a13, .inl (k11, 40, .inl f11))] := hD
  refine lv_aload_n hx hb dX7_copy_15 rfl (lv_at hl 1 rfl) ?_
  refine va_get (D := (dC, dI)) (ci := 7) (v := .ref a3) (C := RX7) (T := TX7) (N := 9) hx hb hts iwX7 hown hK hP 0 rfl rfl 1 (by decide) (hts _ mw_521) (fun _ h9 => h9) rfl dX7_copy_16 ?_
  refine lv_iconst (v := 0) hx hb dX7_copy_19 (by decide) ?_
  refine lv_aload_n hx hb dX7_copy_20 rfl (lv_at hl 0 rfl) ?_
  refine va_get (D := (dC, dI)) (ci := 7) (v := .ref a9) (C := RX7) (T := TX7) (N := 9) hx hb hts iwX7 hown hK hP 7 rfl rfl 1 (by decide) (hts _ mw_521) (fun _ h9 => h9) rfl dX7_copy_21 ?_
  refine lv_iconst (v := 0) hx hb dX7_copy_24 (by decide) ?_
  refine lv_bipush (v := 40) hx hb dX7_copy_25 (by decide) ?_
  refine va_copyi hx hb (by rw [hml]; exact hl.1.symm) hown (hts _ mw_1090) (hts _ mw_1092) (hts _ mw_1091) (hts _ mw_118) hK hP hD hS 2 9 1 7 rfl rfl rfl rfl rfl (by decide) (by decide) (by decide) (by decide) (by decide) (fun _ _ => rfl) (Nat.le_of_ble_eq_true rfl) (Nat.le_of_ble_eq_true rfl) dX7_copy_27 (fun H locs hP hD hS => ?_)
  generalize va_cpy _ _ _ _ _ = f_2 at hP hD
  have hP : va_P (dC, dI) CL [(a1, .inr (7, [.ref a2, .ref a3, .ref a4, .ref a5, .ref a6, .ref a7, .int 0, .int 0, .int 0])), (a2, .inl (k0, 40, .inl f0)), (a3, .inl (k1, 40, .inl f1)), (a4, .inl (k2, 40, .inl f2)), (a5, .inl (k3, 40, .inl f3)), (a6, .inl (k4, 40, .inl f4)), (a7, .inl (k5, 40, .inl f5)), (a0, .inr (7, [.ref a8, .ref a9, .ref a10, .ref a11, .ref a12, .ref a13, .int 0, .int 0, .int 0])), (a8, .inl (k6, 40, .inl f_1)), (a9, .inl (k7, 40, .inl f_2)), (a10, .inl (k8, 40, .inl f8)), (a11, .inl (k9, 40, .inl f9)), (a12, .inl (k10, 40, .inl f10)), (a13, .inl (k11, 40, .inl f11))] H := hP
  have hD : va_D A [(a1, .inr (7, [.ref a2, .ref a3, .ref a4, .ref a5, .ref a6, .ref a7, .int 0, .int 0, .int 0])), (a2, .inl (k0, 40, .inl f0)), (a3, .inl (k1, 40, .inl f1)), (a4, .inl (k2, 40, .inl f2)), (a5, .inl (k3, 40, .inl f3)), (a6, .inl (k4, 40, .inl f4)), (a7, .inl (k5, 40, .inl f5)), (a0, .inr (7, [.ref a8, .ref a9, .ref a10, .ref a11, .ref a12, .ref a13, .int 0, .int 0, .int 0])), (a8, .inl (k6, 40, .inl f_1)), (a9, .inl (k7, 40, .inl f_2)), (a10, .inl (k8, 40, .inl f8)), (a11, .inl (k9, 40, .inl f9)), (a12, .inl (k10, 40, .inl f10)), (a13, .inl (k11, 40, .inl f11))] := hD
  refine lv_aload_n hx hb dX7_copy_30 rfl (lv_at hl 1 rfl) ?_
  refine va_get (D := (dC, dI)) (ci := 7) (v := .ref a4) (C := RX7) (T := TX7) (N := 9) hx hb hts iwX7 hown hK hP 0 rfl rfl 2 (by decide) (hts _ mw_523) (fun _ h9 => h9) rfl dX7_copy_31 ?_
  refine lv_iconst (v := 0) hx hb dX7_copy_34 (by decide) ?_
  refine lv_aload_n hx hb dX7_copy_35 rfl (lv_at hl 0 rfl) ?_
  refine va_get (D := (dC, dI)) (ci := 7) (v := .ref a10) (C := RX7) (T := TX7) (N := 9) hx hb hts iwX7 hown hK hP 7 rfl rfl 2 (by decide) (hts _ mw_523) (fun _ h9 => h9) rfl dX7_copy_36 ?_
  refine lv_iconst (v := 0) hx hb dX7_copy_39 (by decide) ?_
  refine lv_bipush (v := 40) hx hb dX7_copy_40 (by decide) ?_
  refine va_copyi hx hb (by rw [hml]; exact hl.1.symm) hown (hts _ mw_1090) (hts _ mw_1092) (hts _ mw_1091) (hts _ mw_118) hK hP hD hS 3 10 2 8 rfl rfl rfl rfl rfl (by decide) (by decide) (by decide) (by decide) (by decide) (fun _ _ => rfl) (Nat.le_of_ble_eq_true rfl) (Nat.le_of_ble_eq_true rfl) dX7_copy_42 (fun H locs hP hD hS => ?_)
  generalize va_cpy _ _ _ _ _ = f_3 at hP hD
  have hP : va_P (dC, dI) CL [(a1, .inr (7, [.ref a2, .ref a3, .ref a4, .ref a5, .ref a6, .ref a7, .int 0, .int 0, .int 0])), (a2, .inl (k0, 40, .inl f0)), (a3, .inl (k1, 40, .inl f1)), (a4, .inl (k2, 40, .inl f2)), (a5, .inl (k3, 40, .inl f3)), (a6, .inl (k4, 40, .inl f4)), (a7, .inl (k5, 40, .inl f5)), (a0, .inr (7, [.ref a8, .ref a9, .ref a10, .ref a11, .ref a12, .ref a13, .int 0, .int 0, .int 0])), (a8, .inl (k6, 40, .inl f_1)), (a9, .inl (k7, 40, .inl f_2)), (a10, .inl (k8, 40, .inl f_3)), (a11, .inl (k9, 40, .inl f9)), (a12, .inl (k10, 40, .inl f10)), (a13, .inl (k11, 40, .inl f11))] H := hP
  have hD : va_D A [(a1, .inr (7, [.ref a2, .ref a3, .ref a4, .ref a5, .ref a6, .ref a7, .int 0, .int 0, .int 0])), (a2, .inl (k0, 40, .inl f0)), (a3, .inl (k1, 40, .inl f1)), (a4, .inl (k2, 40, .inl f2)), (a5, .inl (k3, 40, .inl f3)), (a6, .inl (k4, 40, .inl f4)), (a7, .inl (k5, 40, .inl f5)), (a0, .inr (7, [.ref a8, .ref a9, .ref a10, .ref a11, .ref a12, .ref a13, .int 0, .int 0, .int 0])), (a8, .inl (k6, 40, .inl f_1)), (a9, .inl (k7, 40, .inl f_2)), (a10, .inl (k8, 40, .inl f_3)), (a11, .inl (k9, 40, .inl f9)), (a12, .inl (k10, 40, .inl f10)), (a13, .inl (k11, 40, .inl f11))] := hD
  refine lv_aload_n hx hb dX7_copy_45 rfl (lv_at hl 1 rfl) ?_
  refine va_get (D := (dC, dI)) (ci := 7) (v := .ref a5) (C := RX7) (T := TX7) (N := 9) hx hb hts iwX7 hown hK hP 0 rfl rfl 3 (by decide) (hts _ mw_525) (fun _ h9 => h9) rfl dX7_copy_46 ?_
  refine lv_iconst (v := 0) hx hb dX7_copy_49 (by decide) ?_
  refine lv_aload_n hx hb dX7_copy_50 rfl (lv_at hl 0 rfl) ?_
  refine va_get (D := (dC, dI)) (ci := 7) (v := .ref a11) (C := RX7) (T := TX7) (N := 9) hx hb hts iwX7 hown hK hP 7 rfl rfl 3 (by decide) (hts _ mw_525) (fun _ h9 => h9) rfl dX7_copy_51 ?_
  refine lv_iconst (v := 0) hx hb dX7_copy_54 (by decide) ?_
  refine lv_bipush (v := 40) hx hb dX7_copy_55 (by decide) ?_
  refine va_copyi hx hb (by rw [hml]; exact hl.1.symm) hown (hts _ mw_1090) (hts _ mw_1092) (hts _ mw_1091) (hts _ mw_118) hK hP hD hS 4 11 3 9 rfl rfl rfl rfl rfl (by decide) (by decide) (by decide) (by decide) (by decide) (fun _ _ => rfl) (Nat.le_of_ble_eq_true rfl) (Nat.le_of_ble_eq_true rfl) dX7_copy_57 (fun H locs hP hD hS => ?_)
  generalize va_cpy _ _ _ _ _ = f_4 at hP hD
  have hP : va_P (dC, dI) CL [(a1, .inr (7, [.ref a2, .ref a3, .ref a4, .ref a5, .ref a6, .ref a7, .int 0, .int 0, .int 0])), (a2, .inl (k0, 40, .inl f0)), (a3, .inl (k1, 40, .inl f1)), (a4, .inl (k2, 40, .inl f2)), (a5, .inl (k3, 40, .inl f3)), (a6, .inl (k4, 40, .inl f4)), (a7, .inl (k5, 40, .inl f5)), (a0, .inr (7, [.ref a8, .ref a9, .ref a10, .ref a11, .ref a12, .ref a13, .int 0, .int 0, .int 0])), (a8, .inl (k6, 40, .inl f_1)), (a9, .inl (k7, 40, .inl f_2)), (a10, .inl (k8, 40, .inl f_3)), (a11, .inl (k9, 40, .inl f_4)), (a12, .inl (k10, 40, .inl f10)), (a13, .inl (k11, 40, .inl f11))] H := hP
  have hD : va_D A [(a1, .inr (7, [.ref a2, .ref a3, .ref a4, .ref a5, .ref a6, .ref a7, .int 0, .int 0, .int 0])), (a2, .inl (k0, 40, .inl f0)), (a3, .inl (k1, 40, .inl f1)), (a4, .inl (k2, 40, .inl f2)), (a5, .inl (k3, 40, .inl f3)), (a6, .inl (k4, 40, .inl f4)), (a7, .inl (k5, 40, .inl f5)), (a0, .inr (7, [.ref a8, .ref a9, .ref a10, .ref a11, .ref a12, .ref a13, .int 0, .int 0, .int 0])), (a8, .inl (k6, 40, .inl f_1)), (a9, .inl (k7, 40, .inl f_2)), (a10, .inl (k8, 40, .inl f_3)), (a11, .inl (k9, 40, .inl f_4)), (a12, .inl (k10, 40, .inl f10)), (a13, .inl (k11, 40, .inl f11))] := hD
  refine lv_aload_n hx hb dX7_copy_60 rfl (lv_at hl 1 rfl) ?_
  refine va_get (D := (dC, dI)) (ci := 7) (v := .ref a6) (C := RX7) (T := TX7) (N := 9) hx hb hts iwX7 hown hK hP 0 rfl rfl 4 (by decide) (hts _ mw_527) (fun _ h9 => h9) rfl dX7_copy_61 ?_
  refine lv_iconst (v := 0) hx hb dX7_copy_64 (by decide) ?_
  refine lv_aload_n hx hb dX7_copy_65 rfl (lv_at hl 0 rfl) ?_
  refine va_get (D := (dC, dI)) (ci := 7) (v := .ref a12) (C := RX7) (T := TX7) (N := 9) hx hb hts iwX7 hown hK hP 7 rfl rfl 4 (by decide) (hts _ mw_527) (fun _ h9 => h9) rfl dX7_copy_66 ?_
  refine lv_iconst (v := 0) hx hb dX7_copy_69 (by decide) ?_
  refine lv_bipush (v := 40) hx hb dX7_copy_70 (by decide) ?_
  refine va_copyi hx hb (by rw [hml]; exact hl.1.symm) hown (hts _ mw_1090) (hts _ mw_1092) (hts _ mw_1091) (hts _ mw_118) hK hP hD hS 5 12 4 10 rfl rfl rfl rfl rfl (by decide) (by decide) (by decide) (by decide) (by decide) (fun _ _ => rfl) (Nat.le_of_ble_eq_true rfl) (Nat.le_of_ble_eq_true rfl) dX7_copy_72 (fun H locs hP hD hS => ?_)
  generalize va_cpy _ _ _ _ _ = f_5 at hP hD
  have hP : va_P (dC, dI) CL [(a1, .inr (7, [.ref a2, .ref a3, .ref a4, .ref a5, .ref a6, .ref a7, .int 0, .int 0, .int 0])), (a2, .inl (k0, 40, .inl f0)), (a3, .inl (k1, 40, .inl f1)), (a4, .inl (k2, 40, .inl f2)), (a5, .inl (k3, 40, .inl f3)), (a6, .inl (k4, 40, .inl f4)), (a7, .inl (k5, 40, .inl f5)), (a0, .inr (7, [.ref a8, .ref a9, .ref a10, .ref a11, .ref a12, .ref a13, .int 0, .int 0, .int 0])), (a8, .inl (k6, 40, .inl f_1)), (a9, .inl (k7, 40, .inl f_2)), (a10, .inl (k8, 40, .inl f_3)), (a11, .inl (k9, 40, .inl f_4)), (a12, .inl (k10, 40, .inl f_5)), (a13, .inl (k11, 40, .inl f11))] H := hP
  have hD : va_D A [(a1, .inr (7, [.ref a2, .ref a3, .ref a4, .ref a5, .ref a6, .ref a7, .int 0, .int 0, .int 0])), (a2, .inl (k0, 40, .inl f0)), (a3, .inl (k1, 40, .inl f1)), (a4, .inl (k2, 40, .inl f2)), (a5, .inl (k3, 40, .inl f3)), (a6, .inl (k4, 40, .inl f4)), (a7, .inl (k5, 40, .inl f5)), (a0, .inr (7, [.ref a8, .ref a9, .ref a10, .ref a11, .ref a12, .ref a13, .int 0, .int 0, .int 0])), (a8, .inl (k6, 40, .inl f_1)), (a9, .inl (k7, 40, .inl f_2)), (a10, .inl (k8, 40, .inl f_3)), (a11, .inl (k9, 40, .inl f_4)), (a12, .inl (k10, 40, .inl f_5)), (a13, .inl (k11, 40, .inl f11))] := hD
  refine lv_aload_n hx hb dX7_copy_75 rfl (lv_at hl 1 rfl) ?_
  refine va_get (D := (dC, dI)) (ci := 7) (v := .ref a7) (C := RX7) (T := TX7) (N := 9) hx hb hts iwX7 hown hK hP 0 rfl rfl 5 (by decide) (hts _ mw_528) (fun _ h9 => h9) rfl dX7_copy_76 ?_
  refine lv_iconst (v := 0) hx hb dX7_copy_79 (by decide) ?_
  refine lv_aload_n hx hb dX7_copy_80 rfl (lv_at hl 0 rfl) ?_
  refine va_get (D := (dC, dI)) (ci := 7) (v := .ref a13) (C := RX7) (T := TX7) (N := 9) hx hb hts iwX7 hown hK hP 7 rfl rfl 5 (by decide) (hts _ mw_528) (fun _ h9 => h9) rfl dX7_copy_81 ?_
  refine lv_iconst (v := 0) hx hb dX7_copy_84 (by decide) ?_
  refine lv_bipush (v := 40) hx hb dX7_copy_85 (by decide) ?_
  refine va_copyi hx hb (by rw [hml]; exact hl.1.symm) hown (hts _ mw_1090) (hts _ mw_1092) (hts _ mw_1091) (hts _ mw_118) hK hP hD hS 6 13 5 11 rfl rfl rfl rfl rfl (by decide) (by decide) (by decide) (by decide) (by decide) (fun _ _ => rfl) (Nat.le_of_ble_eq_true rfl) (Nat.le_of_ble_eq_true rfl) dX7_copy_87 (fun H locs hP hD hS => ?_)
  generalize va_cpy _ _ _ _ _ = f_6 at hP hD
  have hP : va_P (dC, dI) CL [(a1, .inr (7, [.ref a2, .ref a3, .ref a4, .ref a5, .ref a6, .ref a7, .int 0, .int 0, .int 0])), (a2, .inl (k0, 40, .inl f0)), (a3, .inl (k1, 40, .inl f1)), (a4, .inl (k2, 40, .inl f2)), (a5, .inl (k3, 40, .inl f3)), (a6, .inl (k4, 40, .inl f4)), (a7, .inl (k5, 40, .inl f5)), (a0, .inr (7, [.ref a8, .ref a9, .ref a10, .ref a11, .ref a12, .ref a13, .int 0, .int 0, .int 0])), (a8, .inl (k6, 40, .inl f_1)), (a9, .inl (k7, 40, .inl f_2)), (a10, .inl (k8, 40, .inl f_3)), (a11, .inl (k9, 40, .inl f_4)), (a12, .inl (k10, 40, .inl f_5)), (a13, .inl (k11, 40, .inl f_6))] H := hP
  have hD : va_D A [(a1, .inr (7, [.ref a2, .ref a3, .ref a4, .ref a5, .ref a6, .ref a7, .int 0, .int 0, .int 0])), (a2, .inl (k0, 40, .inl f0)), (a3, .inl (k1, 40, .inl f1)), (a4, .inl (k2, 40, .inl f2)), (a5, .inl (k3, 40, .inl f3)), (a6, .inl (k4, 40, .inl f4)), (a7, .inl (k5, 40, .inl f5)), (a0, .inr (7, [.ref a8, .ref a9, .ref a10, .ref a11, .ref a12, .ref a13, .int 0, .int 0, .int 0])), (a8, .inl (k6, 40, .inl f_1)), (a9, .inl (k7, 40, .inl f_2)), (a10, .inl (k8, 40, .inl f_3)), (a11, .inl (k9, 40, .inl f_4)), (a12, .inl (k10, 40, .inl f_5)), (a13, .inl (k11, 40, .inl f_6))] := hD
  refine lv_aload_n hx hb dX7_copy_90 rfl (lv_at hl 0 rfl) ?_
  refine lv_aload_n hx hb dX7_copy_91 rfl (lv_at hl 1 rfl) ?_
  refine va_get (D := (dC, dI)) (ci := 7) (v := .int 0) (C := RX7) (T := TX7) (N := 9) hx hb hts iwX7 hown hK hP 0 rfl rfl 6 (by decide) (hts _ mw_530) (fun _ h9 => h9) rfl dX7_copy_92 ?_
  refine va_put (D := (dC, dI)) (ci := 7) (v := .int 0) (ty := .int) (C := RX7) (T := TX7) (N := 9) hx hb hts iwX7 tyX7 tyX7_ok nmX7 hown hK hP hD hS 7 rfl rfl 6 (by decide) (hts _ mw_530) (fun _ h9 => h9) rfl (by decide +kernel) rfl rfl (Nat.le_of_ble_eq_true rfl) dX7_copy_95 (fun H locs hP hD hS => ?_)
  have hP : va_P (dC, dI) CL [(a1, .inr (7, [.ref a2, .ref a3, .ref a4, .ref a5, .ref a6, .ref a7, .int 0, .int 0, .int 0])), (a2, .inl (k0, 40, .inl f0)), (a3, .inl (k1, 40, .inl f1)), (a4, .inl (k2, 40, .inl f2)), (a5, .inl (k3, 40, .inl f3)), (a6, .inl (k4, 40, .inl f4)), (a7, .inl (k5, 40, .inl f5)), (a0, .inr (7, [.ref a8, .ref a9, .ref a10, .ref a11, .ref a12, .ref a13, .int 0, .int 0, .int 0])), (a8, .inl (k6, 40, .inl f_1)), (a9, .inl (k7, 40, .inl f_2)), (a10, .inl (k8, 40, .inl f_3)), (a11, .inl (k9, 40, .inl f_4)), (a12, .inl (k10, 40, .inl f_5)), (a13, .inl (k11, 40, .inl f_6))] H := hP
  have hD : va_D A [(a1, .inr (7, [.ref a2, .ref a3, .ref a4, .ref a5, .ref a6, .ref a7, .int 0, .int 0, .int 0])), (a2, .inl (k0, 40, .inl f0)), (a3, .inl (k1, 40, .inl f1)), (a4, .inl (k2, 40, .inl f2)), (a5, .inl (k3, 40, .inl f3)), (a6, .inl (k4, 40, .inl f4)), (a7, .inl (k5, 40, .inl f5)), (a0, .inr (7, [.ref a8, .ref a9, .ref a10, .ref a11, .ref a12, .ref a13, .int 0, .int 0, .int 0])), (a8, .inl (k6, 40, .inl f_1)), (a9, .inl (k7, 40, .inl f_2)), (a10, .inl (k8, 40, .inl f_3)), (a11, .inl (k9, 40, .inl f_4)), (a12, .inl (k10, 40, .inl f_5)), (a13, .inl (k11, 40, .inl f_6))] := hD
  refine lv_aload_n hx hb dX7_copy_98 rfl (lv_at hl 0 rfl) ?_
  refine lv_aload_n hx hb dX7_copy_99 rfl (lv_at hl 1 rfl) ?_
  refine va_get (D := (dC, dI)) (ci := 7) (v := .int 0) (C := RX7) (T := TX7) (N := 9) hx hb hts iwX7 hown hK hP 0 rfl rfl 7 (by decide) (hts _ mw_532) (fun _ h9 => h9) rfl dX7_copy_100 ?_
  refine va_put (D := (dC, dI)) (ci := 7) (v := .int 0) (ty := .int) (C := RX7) (T := TX7) (N := 9) hx hb hts iwX7 tyX7 tyX7_ok nmX7 hown hK hP hD hS 7 rfl rfl 7 (by decide) (hts _ mw_532) (fun _ h9 => h9) rfl (by decide +kernel) rfl rfl (Nat.le_of_ble_eq_true rfl) dX7_copy_103 (fun H locs hP hD hS => ?_)
  have hP : va_P (dC, dI) CL [(a1, .inr (7, [.ref a2, .ref a3, .ref a4, .ref a5, .ref a6, .ref a7, .int 0, .int 0, .int 0])), (a2, .inl (k0, 40, .inl f0)), (a3, .inl (k1, 40, .inl f1)), (a4, .inl (k2, 40, .inl f2)), (a5, .inl (k3, 40, .inl f3)), (a6, .inl (k4, 40, .inl f4)), (a7, .inl (k5, 40, .inl f5)), (a0, .inr (7, [.ref a8, .ref a9, .ref a10, .ref a11, .ref a12, .ref a13, .int 0, .int 0, .int 0])), (a8, .inl (k6, 40, .inl f_1)), (a9, .inl (k7, 40, .inl f_2)), (a10, .inl (k8, 40, .inl f_3)), (a11, .inl (k9, 40, .inl f_4)), (a12, .inl (k10, 40, .inl f_5)), (a13, .inl (k11, 40, .inl f_6))] H := hP
  have hD : va_D A [(a1, .inr (7, [.ref a2, .ref a3, .ref a4, .ref a5, .ref a6, .ref a7, .int 0, .int 0, .int 0])), (a2, .inl (k0, 40, .inl f0)), (a3, .inl (k1, 40, .inl f1)), (a4, .inl (k2, 40, .inl f2)), (a5, .inl (k3, 40, .inl f3)), (a6, .inl (k4, 40, .inl f4)), (a7, .inl (k5, 40, .inl f5)), (a0, .inr (7, [.ref a8, .ref a9, .ref a10, .ref a11, .ref a12, .ref a13, .int 0, .int 0, .int 0])), (a8, .inl (k6, 40, .inl f_1)), (a9, .inl (k7, 40, .inl f_2)), (a10, .inl (k8, 40, .inl f_3)), (a11, .inl (k9, 40, .inl f_4)), (a12, .inl (k10, 40, .inl f_5)), (a13, .inl (k11, 40, .inl f_6))] := hD
  refine W.widen (k := 0) (n := 0) (Nat.le_of_ble_eq_true rfl) (Nat.le_of_ble_eq_true rfl) ?_
  have hP9 := hP.sub (ws' := [(a1, .inr (7, [.ref a2, .ref a3, .ref a4, .ref a5, .ref a6, .ref a7, .int 0, .int 0, .int 0])), (a2, .inl (k0, 40, .inl f0)), (a3, .inl (k1, 40, .inl f1)), (a4, .inl (k2, 40, .inl f2)), (a5, .inl (k3, 40, .inl f3)), (a6, .inl (k4, 40, .inl f4)), (a7, .inl (k5, 40, .inl f5)), (a0, .inr (7, [.ref a8, .ref a9, .ref a10, .ref a11, .ref a12, .ref a13, .int 0, .int 0, .int 0])), (a8, .inl (k6, 40, .inl f_1)), (a9, .inl (k7, 40, .inl f_2)), (a10, .inl (k8, 40, .inl f_3)), (a11, .inl (k9, 40, .inl f_4)), (a12, .inl (k10, 40, .inl f_5)), (a13, .inl (k11, 40, .inl f_6))]) [0, 1, 2, 3, 4, 5, 6, 7, 8, 9, 10, 11, 12, 13] rfl
  have hD9 := hD.sub (ws' := [(a1, .inr (7, [.ref a2, .ref a3, .ref a4, .ref a5, .ref a6, .ref a7, .int 0, .int 0, .int 0])), (a2, .inl (k0, 40, .inl f0)), (a3, .inl (k1, 40, .inl f1)), (a4, .inl (k2, 40, .inl f2)), (a5, .inl (k3, 40, .inl f3)), (a6, .inl (k4, 40, .inl f4)), (a7, .inl (k5, 40, .inl f5)), (a0, .inr (7, [.ref a8, .ref a9, .ref a10, .ref a11, .ref a12, .ref a13, .int 0, .int 0, .int 0])), (a8, .inl (k6, 40, .inl f_1)), (a9, .inl (k7, 40, .inl f_2)), (a10, .inl (k8, 40, .inl f_3)), (a11, .inl (k9, 40, .inl f_4)), (a12, .inl (k10, 40, .inl f_5)), (a13, .inl (k11, 40, .inl f_6))]) [0, 1, 2, 3, 4, 5, 6, 7, 8, 9, 10, 11, 12, 13] (by decide) rfl
  have hK9 := hK.sub (tys' := [(k0, .int), (k1, .int), (k2, .int), (k3, .int), (k4, .int), (k5, .int), (k6, .int), (k7, .int), (k8, .int), (k9, .int), (k10, .int), (k11, .int)]) [0, 1, 2, 3, 4, 5, 6, 7, 8, 9, 10, 11] rfl
  exact W.vret hx hb hr (fun t ht hW => ⟨⟨(), rfl, trivial, f_1, f_2, f_3, f_4, f_5, f_6, by rw [ht]; exact hP9, va_K.moved hW.alike hK9, hD9⟩, hS.F ht⟩) hS.2.2 dX7_copy_106
