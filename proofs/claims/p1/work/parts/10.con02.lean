set_option maxHeartbeats 4000000 in
set_option maxRecDepth 100000 in
theorem lpX8_sortBytes_2 {p : Program} {l : Launch} {e : Env} {s : State} {m : MethodId} {args : Array Value} {below : List Frame} {meth : Method} {c : Code} {Q : State → Prop} {dC : Nat → ClassId} {dI : Nat → Nat → Nat} {adK adV : Nat → Nat} {A : Nat → Prop} {a0 : Nat} {a1 : Nat} {a2 : Nat} {a3 : Nat} {k0 : ClassId} (hx : p.tables.exec = Jvm.exec) (hb : c.code = cX8_sortBytes) (hml : c.maxLocals = 4) (hown : s.vm.findClass RX8 = some m.cls) (hts : ∀ w ∈ TB, w.before args s = true) (hC : XC adK adV A s s.heap) (hA : ∀ q : Nat, s.heap.size ≤ q → A q) (hK : va_K (dC, dI) CL [(k0, .int)] s) (kk : ∀ (g0 : Nat → Int32) (H : Heap) (locs : List Loc) (ls : Array Slot), va_P (dC, dI) CL [(a0, .inr (8, [.ref a1, .ref a2, .ref a3, .int 0, .int 0, .int 0, .int 0, .int 0, .long 0])), (a1, .inl (k0, 256, .inl g0))] H → va_D A [(a0, .inr (8, [.ref a1, .ref a2, .ref a3, .int 0, .int 0, .int 0, .int 0, .int 0, .long 0])), (a1, .inl (k0, 256, .inl g0))] → va_S A s.heap H locs → lv_has ls 4 [(3, .int 2), (0, .ref a0), (1, .ref (adK 0)), (2, .int 1)] → W p l e (headSpec (Cond.code yX8_sortBytes cX8_sortBytes 4 none :: TB) ({ frames := 5, cells := 0, slots := 0, locals := 321 })).room s m args below meth c H locs 0 0 Q (F0 m 2 ls [])) : ∀ (n i : Nat), i + n = 2 → ∀ (g0 : Nat → Int32) (H : Heap) (locs : List Loc) (ls : Array Slot), va_P (dC, dI) CL [(a0, .inr (8, [.ref a1, .ref a2, .ref a3, .int 0, .int 0, .int 0, .int 0, .int 0, .long 0])), (a1, .inl (k0, 256, .inl g0))] H → va_D A [(a0, .inr (8, [.ref a1, .ref a2, .ref a3, .int 0, .int 0, .int 0, .int 0, .int 0, .long 0])), (a1, .inl (k0, 256, .inl g0))] → va_S A s.heap H locs → lv_has ls 4 [(3, .int (nI i)), (0, .ref a0), (1, .ref (adK 0)), (2, .int 1)] → W p l e (headSpec (Cond.code yX8_sortBytes cX8_sortBytes 4 none :: TB) ({ frames := 5, cells := 0, slots := 0, locals := 321 })).room s m args below meth c H locs 0 0 Q (F0 m 2 ls []) := by
  intro n
  induction n with
  | zero =>
    intro i hi g0  H locs ls hP hD hS hl
    have hi : i = 2 := by omega
    subst hi
    exact kk g0  H locs ls hP hD hS hl
  | succ n ih =>
    intro i hi g0  H locs ls hP hD hS hl
    have hlt : i < 2 := by omega
    refine lv_iload_n hx hb dX8_sortBytes_2 rfl (lv_at hl 0 rfl) ?_
    refine lv_aload_n hx hb dX8_sortBytes_3 rfl (lv_at hl 2 rfl) ?_
    have hPc := hP.sub (ws' := []) [] rfl
    have hDc := hD.sub (ws' := []) [] (by decide) rfl
    have hKc := hK.sub (tys' := []) [] rfl
    have hFc := va_free (wc := []) hD hS hA [] rfl
    refine va_calli (va_runV (As := []) (rest := [.int (nI i)]) ⟨hx, hb, hml, hown, hts⟩ (cJ_len l dC dI adK adV H.size 0 2 (by decide) rfl) (cwV 0 hts (tb_V mw_326 mw_327 mw_328 mw_108 mw_329) rfl rfl rfl (by decide +kernel) ⟨Nat.le_of_ble_eq_true rfl, Nat.le_of_ble_eq_true rfl⟩) ⟨XB, vk_recv hC.p15 (i := 0) (by decide) hS, XQ (av := [.ref (adK 0)]) hPc hKc hDc hC hS hFc⟩ rfl rfl hl.1 rfl (lv_room (Nat.le_of_ble_eq_true rfl)) dX8_sortBytes_4 ⟨Nat.le_of_ble_eq_true rfl, Nat.le_of_ble_eq_true rfl⟩) hS (fun q _ h => hFc q h) hFc (fun r_501 u_9 t H1 locs ht hvm hw hB hz1 hk1 hS => ?_)
    try dsimp only at hw
    obtain ⟨hP, hD⟩ := va_join (wr := [(a0, .inr (8, [.ref a1, .ref a2, .ref a3, .int 0, .int 0, .int 0, .int 0, .int 0, .long 0])), (a1, .inl (k0, 256, .inl g0))]) (w1 := []) hP hD [] [0, 1] rfl rfl (by decide) (by decide) hk1 hFc (fun k q h => by simp at h) ⟨fun i j p q h => by simp at h, fun k q h => by simp at h⟩
    have hK := hK.sub (tys' := [(k0, .int)]) [0] rfl
    generalize H1 = H at hP hS ⊢
    have hP : va_P (dC, dI) CL [(a0, .inr (8, [.ref a1, .ref a2, .ref a3, .int 0, .int 0, .int 0, .int 0, .int 0, .long 0])), (a1, .inl (k0, 256, .inl g0))] H := hP
    have hD : va_D A [(a0, .inr (8, [.ref a1, .ref a2, .ref a3, .int 0, .int 0, .int 0, .int 0, .int 0, .long 0])), (a1, .inl (k0, 256, .inl g0))] := hD
    have hK : va_K (dC, dI) CL [(k0, .int)] s := hK
    subst hw
    refine lv_icmp_ge (tgt := 31) hx hb dX8_sortBytes_7 (by decide) (fun h => absurd h (nI_ge (a := i) (b := 2) hlt (by decide))) (fun _ => ?_)
    refine lv_aload_n hx hb dX8_sortBytes_10 rfl (lv_at hl 1 rfl) ?_
    refine va_get (D := (dC, dI)) (ci := 8) (v := .ref a1) (C := RX8) (T := TX8) (N := 9) hx hb hts iwX8 hown hK hP 0 rfl rfl 0 (by decide) (hts _ mw_378) (fun _ h9 => h9) rfl dX8_sortBytes_11 ?_
    refine lv_aload_n hx hb dX8_sortBytes_14 rfl (lv_at hl 2 rfl) ?_
    refine lv_iload_n hx hb dX8_sortBytes_15 rfl (lv_at hl 0 rfl) ?_
    have hPc := hP.sub (ws' := []) [] rfl
    have hDc := hD.sub (ws' := []) [] (by decide) rfl
    have hKc := hK.sub (tys' := []) [] rfl
    have hFc := va_free (wc := []) hD hS hA [] rfl
    refine va_calli (va_runV (As := [.int (nI i)]) (rest := [.ref a1]) ⟨hx, hb, hml, hown, hts⟩ (cJ_chr l dC dI adK adV H.size 0 i (by decide) hlt) (cwV 1 hts (tb_V mw_336 mw_337 mw_338 mw_108 mw_339) rfl rfl rfl (by decide +kernel) ⟨Nat.le_of_ble_eq_true rfl, Nat.le_of_ble_eq_true rfl⟩) ⟨XB, vk_recv hC.p15 (i := 0) (by decide) hS, XQ (av := [.ref (adK 0), .int (nI i)]) hPc hKc hDc hC hS hFc⟩ rfl rfl hl.1 rfl (lv_room (Nat.le_of_ble_eq_true rfl)) dX8_sortBytes_16 ⟨Nat.le_of_ble_eq_true rfl, Nat.le_of_ble_eq_true rfl⟩) hS (fun q _ h => hFc q h) hFc (fun r_502 u_9 t H1 locs ht hvm hw hB hz1 hk1 hS => ?_)
    try dsimp only at hw
    obtain ⟨hP, hD⟩ := va_join (wr := [(a0, .inr (8, [.ref a1, .ref a2, .ref a3, .int 0, .int 0, .int 0, .int 0, .int 0, .long 0])), (a1, .inl (k0, 256, .inl g0))]) (w1 := []) hP hD [] [0, 1] rfl rfl (by decide) (by decide) hk1 hFc (fun k q h => by simp at h) ⟨fun i j p q h => by simp at h, fun k q h => by simp at h⟩
    have hK := hK.sub (tys' := [(k0, .int)]) [0] rfl
    generalize H1 = H at hP hS ⊢
    have hP : va_P (dC, dI) CL [(a0, .inr (8, [.ref a1, .ref a2, .ref a3, .int 0, .int 0, .int 0, .int 0, .int 0, .long 0])), (a1, .inl (k0, 256, .inl g0))] H := hP
    have hD : va_D A [(a0, .inr (8, [.ref a1, .ref a2, .ref a3, .int 0, .int 0, .int 0, .int 0, .int 0, .long 0])), (a1, .inl (k0, 256, .inl g0))] := hD
    have hK : va_K (dC, dI) CL [(k0, .int)] s := hK
    refine lv_sipush (v := 255) hx hb dX8_sortBytes_19 (by decide) ?_
    refine lv_iand hx hb dX8_sortBytes_22 ?_
    refine lv_topi (fun v_503 ev_503 => ?_)
    refine lv_iload_n hx hb dX8_sortBytes_23 rfl (lv_at hl 3 rfl) ?_
    refine xh_iast hx hb hK hP hD hS 1 0 rfl rfl (by rw [ev_503]; exact pk_andIn _ 8 (by decide) (by decide)) dX8_sortBytes_24 (fun f_504 H locs hP hD hS => ?_)
    have hP : va_P (dC, dI) CL [(a0, .inr (8, [.ref a1, .ref a2, .ref a3, .int 0, .int 0, .int 0, .int 0, .int 0, .long 0])), (a1, .inl (k0, 256, .inl f_504))] H := hP
    have hD : va_D A [(a0, .inr (8, [.ref a1, .ref a2, .ref a3, .int 0, .int 0, .int 0, .int 0, .int 0, .long 0])), (a1, .inl (k0, 256, .inl f_504))] := hD
    refine lv_iinc (v := (nI (i + 1))) (lv' := [(3, .int (nI (i + 1))), (0, .ref a0), (1, .ref (adK 0)), (2, .int 1)]) hx hb dX8_sortBytes_25 hl (k := 0) rfl (nI_1 _) (by decide) rfl (fun ls hl => ?_)
    refine lv_goto (tgt := 2) hx hb dX8_sortBytes_28 (by decide) ?_
    exact ih (i + 1) (by omega) f_504 _ _ _ (hP.sub [0, 1] rfl) (hD.sub [0, 1] (by decide) rfl) hS (lv_sub hl [0, 1, 2, 3] rfl)
set_option maxHeartbeats 4000000 in
set_option maxRecDepth 100000 in
theorem zX8_sortBytes (l : Launch) (dC : Nat → ClassId) (dI : Nat → Nat → Nat) (adK adV : Nat → Nat) (sz : Nat) (a0 : Nat) (a1 : Nat) (a2 : Nat) (a3 : Nat) (k0 : ClassId) (f0 : Nat → Int32) : Met l yX8_sortBytes (Cond.code yX8_sortBytes cX8_sortBytes 4 none :: TB) ({ frames := 5, cells := 0, slots := 0, locals := 321 }) (XP (dC, dI) adK adV [.ref a0, .ref (adK 0), .int 1] sz [(a0, .inr (8, [.ref a1, .ref a2, .ref a3, .int 0, .int 0, .int 0, .int 0, .int 0, .long 0])), (a1, .inl (k0, 256, .inl f0))] [(k0, .int)]) (va_Qv (fun _ : Unit => True) (fun _ t => ∃ f_1 : Nat → Int32, va_P (dC, dI) CL [(a0, .inr (8, [.ref a1, .ref a2, .ref a3, .int 0, .int 0, .int 0, .int 0, .int 0, .long 0])), (a1, .inl (k0, 256, .inl f_1))] t.heap ∧ va_K (dC, dI) CL [(k0, .int)] t ∧ va_D (va_A [(a0, .inr (8, [.ref a1, .ref a2, .ref a3, .int 0, .int 0, .int 0, .int 0, .int 0, .long 0])), (a1, .inl (k0, 256, .inl f0))] sz) [(a0, .inr (8, [.ref a1, .ref a2, .ref a3, .int 0, .int 0, .int 0, .int 0, .int 0, .long 0])), (a1, .inl (k0, 256, .inl f_1))]) (va_A [(a0, .inr (8, [.ref a1, .ref a2, .ref a3, .int 0, .int 0, .int 0, .int 0, .int 0, .long 0])), (a1, .inl (k0, 256, .inl f0))] sz)) 0 0 (va_A [(a0, .inr (8, [.ref a1, .ref a2, .ref a3, .int 0, .int 0, .int 0, .int 0, .int 0, .long 0])), (a1, .inl (k0, 256, .inl f0))] sz) := by
  refine Met.ofW (cc := cX8_sortBytes) (maxL := 4) (ret := none) (by decide) rfl ?_
  intro p e s m args below meth c s₁ B hml hv
  obtain ⟨rfl, hsz, hP, hK, hD0, hC⟩ := hv
  have hx := B.exec
  have hb := B.bytes
  have hr := B.returns
  have hts0 := atoms_spec (ws := Cond.code yX8_sortBytes cX8_sortBytes 4 none :: TB) B.pre
  have hts : ∀ w ∈ TB, w.before _ s = true := fun w h => hts0 w (List.mem_cons_of_mem _ h)
  have hown : s.vm.findClass RX8 = some m.cls := findClass_of_methodNamed B.named
  have hlocks := B.notSynchronized
  subst hsz
  have hD := hD0.self (sz := s.heap.size)
  generalize hAe : va_A [(a0, .inr (8, [.ref a1, .ref a2, .ref a3, .int 0, .int 0, .int 0, .int 0, .int 0, .long 0])), (a1, .inl (k0, 256, .inl f0))] s.heap.size = A at hD hC ⊢
  have hA : ∀ q : Nat, s.heap.size ≤ q → A q := fun q h => by rw [← hAe]; exact Or.inr h
  have hl := lv_entry ([.ref a0, .ref (adK 0), .int 1]) (n := 4) (Nat.le_of_ble_eq_true rfl)
  rw [lg_entry_eq]
  generalize (lg_sl ([.ref a0, .ref (adK 0), .int 1]) ++ List.replicate (4 - (lg_sl ([.ref a0, .ref (adK 0), .int 1])).length) Slot.unset).toArray = ls at hl ⊢
  have hl : lv_has ls 4 [(0, .ref a0), (1, .ref (adK 0)), (2, .int 1)] := hl
  have hP : va_P (dC, dI) CL [(a0, .inr (8, [.ref a1, .ref a2, .ref a3, .int 0, .int 0, .int 0, .int 0, .int 0, .long 0])), (a1, .inl (k0, 256, .inl f0))] s.heap := hP
  obtain ⟨H, hH⟩ : ∃ z, z = s.heap := ⟨_, rfl⟩
  rw [← hH] at hP ⊢
  have hS : va_S A s.heap H [] := by rw [hH]; exact va_S.rf
  refine lv_iconst (v := 0) hx hb dX8_sortBytes_0 (by decide) ?_
  refine lv_istore_n (lv' := [(3, .int 0), (0, .ref a0), (1, .ref (adK 0)), (2, .int 1)]) hx hb dX8_sortBytes_1 rfl hl (by decide) rfl (fun ls hl => ?_)
  refine lpX8_sortBytes_2 hx hb hml hown hts hC hA hK (fun f_1 H locs ls hP hD hS hl => ?_) 2 0 rfl f0 _ _ _ hP hD hS (lv_sub hl [0, 1, 2, 3] rfl)
  have hP : va_P (dC, dI) CL [(a0, .inr (8, [.ref a1, .ref a2, .ref a3, .int 0, .int 0, .int 0, .int 0, .int 0, .long 0])), (a1, .inl (k0, 256, .inl f_1))] H := hP
  have hD : va_D A [(a0, .inr (8, [.ref a1, .ref a2, .ref a3, .int 0, .int 0, .int 0, .int 0, .int 0, .long 0])), (a1, .inl (k0, 256, .inl f_1))] := hD
  have hl : lv_has ls 4 [(3, .int 2), (0, .ref a0), (1, .ref (adK 0)), (2, .int 1)] := hl
  refine lv_iload_n hx hb dX8_sortBytes_2 rfl (lv_at hl 0 rfl) ?_
  refine lv_aload_n hx hb dX8_sortBytes_3 rfl (lv_at hl 2 rfl) ?_
  have hPc := hP.sub (ws' := []) [] rfl
  have hDc := hD.sub (ws' := []) [] (by decide) rfl
  have hKc := hK.sub (tys' := []) [] rfl
  have hFc := va_free (wc := []) hD hS hA [] rfl
  refine va_calli (va_runV (As := []) (rest := [.int 2]) ⟨hx, hb, hml, hown, hts⟩ (cJ_len l dC dI adK adV H.size 0 2 (by decide) rfl) (cwV 0 hts (tb_V mw_326 mw_327 mw_328 mw_108 mw_329) rfl rfl rfl (by decide +kernel) ⟨Nat.le_of_ble_eq_true rfl, Nat.le_of_ble_eq_true rfl⟩) ⟨XB, vk_recv hC.p15 (i := 0) (by decide) hS, XQ (av := [.ref (adK 0)]) hPc hKc hDc hC hS hFc⟩ rfl rfl hl.1 rfl (lv_room (Nat.le_of_ble_eq_true rfl)) dX8_sortBytes_4 ⟨Nat.le_of_ble_eq_true rfl, Nat.le_of_ble_eq_true rfl⟩) hS (fun q _ h => hFc q h) hFc (fun r_2 u_9 t H1 locs ht hvm hw hB hz1 hk1 hS => ?_)
  try dsimp only at hw
  obtain ⟨hP, hD⟩ := va_join (wr := [(a0, .inr (8, [.ref a1, .ref a2, .ref a3, .int 0, .int 0, .int 0, .int 0, .int 0, .long 0])), (a1, .inl (k0, 256, .inl f_1))]) (w1 := []) hP hD [] [0, 1] rfl rfl (by decide) (by decide) hk1 hFc (fun k q h => by simp at h) ⟨fun i j p q h => by simp at h, fun k q h => by simp at h⟩
  have hK := hK.sub (tys' := [(k0, .int)]) [0] rfl
  generalize H1 = H at hP hS ⊢
  have hP : va_P (dC, dI) CL [(a0, .inr (8, [.ref a1, .ref a2, .ref a3, .int 0, .int 0, .int 0, .int 0, .int 0, .long 0])), (a1, .inl (k0, 256, .inl f_1))] H := hP
  have hD : va_D A [(a0, .inr (8, [.ref a1, .ref a2, .ref a3, .int 0, .int 0, .int 0, .int 0, .int 0, .long 0])), (a1, .inl (k0, 256, .inl f_1))] := hD
  have hK : va_K (dC, dI) CL [(k0, .int)] s := hK
  subst hw
  refine lv_icmp_ge (tgt := 31) hx hb dX8_sortBytes_7 (by decide) (fun _ => ?_) (fun h => (h (by decide)).elim)
  refine W.widen (k := 0) (n := 0) (Nat.le_of_ble_eq_true rfl) (Nat.le_of_ble_eq_true rfl) ?_
  have hP9 := hP.sub (ws' := [(a0, .inr (8, [.ref a1, .ref a2, .ref a3, .int 0, .int 0, .int 0, .int 0, .int 0, .long 0])), (a1, .inl (k0, 256, .inl f_1))]) [0, 1] rfl
  have hD9 := hD.sub (ws' := [(a0, .inr (8, [.ref a1, .ref a2, .ref a3, .int 0, .int 0, .int 0, .int 0, .int 0, .long 0])), (a1, .inl (k0, 256, .inl f_1))]) [0, 1] (by decide) rfl
  have hK9 := hK.sub (tys' := [(k0, .int)]) [0] rfl
  exact W.vret hx hb hr (fun t ht hW => ⟨⟨(), rfl, trivial, f_1, by rw [ht]; exact hP9, va_K.moved hW.alike hK9, hD9⟩, hS.F ht⟩) hS.2.2 dX8_sortBytes_31
set_option maxHeartbeats 4000000 in
set_option maxRecDepth 100000 in
theorem lpX8_sortBytes_2_2 {p : Program} {l : Launch} {e : Env} {s : State} {m : MethodId} {args : Array Value} {below : List Frame} {meth : Method} {c : Code} {Q : State → Prop} {dC : Nat → ClassId} {dI : Nat → Nat → Nat} {adK adV : Nat → Nat} {A : Nat → Prop} {a0 : Nat} {a1 : Nat} {a2 : Nat} {a3 : Nat} {k0 : ClassId} (hx : p.tables.exec = Jvm.exec) (hb : c.code = cX8_sortBytes) (hml : c.maxLocals = 4) (hown : s.vm.findClass RX8 = some m.cls) (hts : ∀ w ∈ TB, w.before args s = true) (hC : XC adK adV A s s.heap) (hA : ∀ q : Nat, s.heap.size ≤ q → A q) (hK : va_K (dC, dI) CL [(k0, .int)] s) (kk : ∀ (g0 : Nat → Int32) (H : Heap) (locs : List Loc) (ls : Array Slot), va_P (dC, dI) CL [(a0, .inr (8, [.ref a1, .ref a2, .ref a3, .int 0, .int 0, .int 0, .int 0, .int 0, .long 0])), (a1, .inl (k0, 256, .inl g0))] H → va_D A [(a0, .inr (8, [.ref a1, .ref a2, .ref a3, .int 0, .int 0, .int 0, .int 0, .int 0, .long 0])), (a1, .inl (k0, 256, .inl g0))] → va_S A s.heap H locs → lv_has ls 4 [(3, .int 26), (0, .ref a0), (1, .ref (adK 1)), (2, .int 2)] → W p l e (headSpec (Cond.code yX8_sortBytes cX8_sortBytes 4 none :: TB) ({ frames := 5, cells := 0, slots := 0, locals := 321 })).room s m args below meth c H locs 0 0 Q (F0 m 2 ls [])) : ∀ (n i : Nat), i + n = 26 → ∀ (g0 : Nat → Int32) (H : Heap) (locs : List Loc) (ls : Array Slot), va_P (dC, dI) CL [(a0, .inr (8, [.ref a1, .ref a2, .ref a3, .int 0, .int 0, .int 0, .int 0, .int 0, .long 0])), (a1, .inl (k0, 256, .inl g0))] H → va_D A [(a0, .inr (8, [.ref a1, .ref a2, .ref a3, .int 0, .int 0, .int 0, .int 0, .int 0, .long 0])), (a1, .inl (k0, 256, .inl g0))] → va_S A s.heap H locs → lv_has ls 4 [(3, .int (nI i)), (0, .ref a0), (1, .ref (adK 1)), (2, .int 2)] → W p l e (headSpec (Cond.code yX8_sortBytes cX8_sortBytes 4 none :: TB) ({ frames := 5, cells := 0, slots := 0, locals := 321 })).room s m args below meth c H locs 0 0 Q (F0 m 2 ls []) := by
  intro n
  induction n with
  | zero =>
    intro i hi g0  H locs ls hP hD hS hl
    have hi : i = 26 := by omega
    subst hi
    exact kk g0  H locs ls hP hD hS hl
  | succ n ih =>
    intro i hi g0  H locs ls hP hD hS hl
    have hlt : i < 26 := by omega
    refine lv_iload_n hx hb dX8_sortBytes_2 rfl (lv_at hl 0 rfl) ?_
    refine lv_aload_n hx hb dX8_sortBytes_3 rfl (lv_at hl 2 rfl) ?_
    have hPc := hP.sub (ws' := []) [] rfl
    have hDc := hD.sub (ws' := []) [] (by decide) rfl
    have hKc := hK.sub (tys' := []) [] rfl
    have hFc := va_free (wc := []) hD hS hA [] rfl
    refine va_calli (va_runV (As := []) (rest := [.int (nI i)]) ⟨hx, hb, hml, hown, hts⟩ (cJ_len l dC dI adK adV H.size 1 26 (by decide) rfl) (cwV 0 hts (tb_V mw_326 mw_327 mw_328 mw_108 mw_329) rfl rfl rfl (by decide +kernel) ⟨Nat.le_of_ble_eq_true rfl, Nat.le_of_ble_eq_true rfl⟩) ⟨XB, vk_recv hC.p15 (i := 1) (by decide) hS, XQ (av := [.ref (adK 1)]) hPc hKc hDc hC hS hFc⟩ rfl rfl hl.1 rfl (lv_room (Nat.le_of_ble_eq_true rfl)) dX8_sortBytes_4 ⟨Nat.le_of_ble_eq_true rfl, Nat.le_of_ble_eq_true rfl⟩) hS (fun q _ h => hFc q h) hFc (fun r_501 u_9 t H1 locs ht hvm hw hB hz1 hk1 hS => ?_)
    try dsimp only at hw
    obtain ⟨hP, hD⟩ := va_join (wr := [(a0, .inr (8, [.ref a1, .ref a2, .ref a3, .int 0, .int 0, .int 0, .int 0, .int 0, .long 0])), (a1, .inl (k0, 256, .inl g0))]) (w1 := []) hP hD [] [0, 1] rfl rfl (by decide) (by decide) hk1 hFc (fun k q h => by simp at h) ⟨fun i j p q h => by simp at h, fun k q h => by simp at h⟩
    have hK := hK.sub (tys' := [(k0, .int)]) [0] rfl
    generalize H1 = H at hP hS ⊢
    have hP : va_P (dC, dI) CL [(a0, .inr (8, [.ref a1, .ref a2, .ref a3, .int 0, .int 0, .int 0, .int 0, .int 0, .long 0])), (a1, .inl (k0, 256, .inl g0))] H := hP
    have hD : va_D A [(a0, .inr (8, [.ref a1, .ref a2, .ref a3, .int 0, .int 0, .int 0, .int 0, .int 0, .long 0])), (a1, .inl (k0, 256, .inl g0))] := hD
    have hK : va_K (dC, dI) CL [(k0, .int)] s := hK
    subst hw
    refine lv_icmp_ge (tgt := 31) hx hb dX8_sortBytes_7 (by decide) (fun h => absurd h (nI_ge (a := i) (b := 26) hlt (by decide))) (fun _ => ?_)
    refine lv_aload_n hx hb dX8_sortBytes_10 rfl (lv_at hl 1 rfl) ?_
    refine va_get (D := (dC, dI)) (ci := 8) (v := .ref a1) (C := RX8) (T := TX8) (N := 9) hx hb hts iwX8 hown hK hP 0 rfl rfl 0 (by decide) (hts _ mw_378) (fun _ h9 => h9) rfl dX8_sortBytes_11 ?_
    refine lv_aload_n hx hb dX8_sortBytes_14 rfl (lv_at hl 2 rfl) ?_
    refine lv_iload_n hx hb dX8_sortBytes_15 rfl (lv_at hl 0 rfl) ?_
    have hPc := hP.sub (ws' := []) [] rfl
    have hDc := hD.sub (ws' := []) [] (by decide) rfl
    have hKc := hK.sub (tys' := []) [] rfl
    have hFc := va_free (wc := []) hD hS hA [] rfl
    refine va_calli (va_runV (As := [.int (nI i)]) (rest := [.ref a1]) ⟨hx, hb, hml, hown, hts⟩ (cJ_chr l dC dI adK adV H.size 1 i (by decide) hlt) (cwV 1 hts (tb_V mw_336 mw_337 mw_338 mw_108 mw_339) rfl rfl rfl (by decide +kernel) ⟨Nat.le_of_ble_eq_true rfl, Nat.le_of_ble_eq_true rfl⟩) ⟨XB, vk_recv hC.p15 (i := 1) (by decide) hS, XQ (av := [.ref (adK 1), .int (nI i)]) hPc hKc hDc hC hS hFc⟩ rfl rfl hl.1 rfl (lv_room (Nat.le_of_ble_eq_true rfl)) dX8_sortBytes_16 ⟨Nat.le_of_ble_eq_true rfl, Nat.le_of_ble_eq_true rfl⟩) hS (fun q _ h => hFc q h) hFc (fun r_502 u_9 t H1 locs ht hvm hw hB hz1 hk1 hS => ?_)
    try dsimp only at hw
    obtain ⟨hP, hD⟩ := va_join (wr := [(a0, .inr (8, [.ref a1, .ref a2, .ref a3, .int 0, .int 0, .int 0, .int 0, .int 0, .long 0])), (a1, .inl (k0, 256, .inl g0))]) (w1 := []) hP hD [] [0, 1] rfl rfl (by decide) (by decide) hk1 hFc (fun k q h => by simp at h) ⟨fun i j p q h => by simp at h, fun k q h => by simp at h⟩
    have hK := hK.sub (tys' := [(k0, .int)]) [0] rfl
    generalize H1 = H at hP hS ⊢
    have hP : va_P (dC, dI) CL [(a0, .inr (8, [.ref a1, .ref a2, .ref a3, .int 0, .int 0, .int 0, .int 0, .int 0, .long 0])), (a1, .inl (k0, 256, .inl g0))] H := hP
    have hD : va_D A [(a0, .inr (8, [.ref a1, .ref a2, .ref a3, .int 0, .int 0, .int 0, .int 0, .int 0, .long 0])), (a1, .inl (k0, 256, .inl g0))] := hD
    have hK : va_K (dC, dI) CL [(k0, .int)] s := hK
    refine lv_sipush (v := 255) hx hb dX8_sortBytes_19 (by decide) ?_
    refine lv_iand hx hb dX8_sortBytes_22 ?_
    refine lv_topi (fun v_503 ev_503 => ?_)
    refine lv_iload_n hx hb dX8_sortBytes_23 rfl (lv_at hl 3 rfl) ?_
    refine xh_iast hx hb hK hP hD hS 1 0 rfl rfl (by rw [ev_503]; exact pk_andIn _ 8 (by decide) (by decide)) dX8_sortBytes_24 (fun f_504 H locs hP hD hS => ?_)
    have hP : va_P (dC, dI) CL [(a0, .inr (8, [.ref a1, .ref a2, .ref a3, .int 0, .int 0, .int 0, .int 0, .int 0, .long 0])), (a1, .inl (k0, 256, .inl f_504))] H := hP
    have hD : va_D A [(a0, .inr (8, [.ref a1, .ref a2, .ref a3, .int 0, .int 0, .int 0, .int 0, .int 0, .long 0])), (a1, .inl (k0, 256, .inl f_504))] := hD
    refine lv_iinc (v := (nI (i + 1))) (lv' := [(3, .int (nI (i + 1))), (0, .ref a0), (1, .ref (adK 1)), (2, .int 2)]) hx hb dX8_sortBytes_25 hl (k := 0) rfl (nI_1 _) (by decide) rfl (fun ls hl => ?_)
    refine lv_goto (tgt := 2) hx hb dX8_sortBytes_28 (by decide) ?_
    exact ih (i + 1) (by omega) f_504 _ _ _ (hP.sub [0, 1] rfl) (hD.sub [0, 1] (by decide) rfl) hS (lv_sub hl [0, 1, 2, 3] rfl)
set_option maxHeartbeats 4000000 in
set_option maxRecDepth 100000 in
theorem zX8_sortBytes_2 (l : Launch) (dC : Nat → ClassId) (dI : Nat → Nat → Nat) (adK adV : Nat → Nat) (sz : Nat) (a0 : Nat) (a1 : Nat) (a2 : Nat) (a3 : Nat) (k0 : ClassId) (f0 : Nat → Int32) : Met l yX8_sortBytes (Cond.code yX8_sortBytes cX8_sortBytes 4 none :: TB) ({ frames := 5, cells := 0, slots := 0, locals := 321 }) (XP (dC, dI) adK adV [.ref a0, .ref (adK 1), .int 2] sz [(a0, .inr (8, [.ref a1, .ref a2, .ref a3, .int 0, .int 0, .int 0, .int 0, .int 0, .long 0])), (a1, .inl (k0, 256, .inl f0))] [(k0, .int)]) (va_Qv (fun _ : Unit => True) (fun _ t => ∃ f_1 : Nat → Int32, va_P (dC, dI) CL [(a0, .inr (8, [.ref a1, .ref a2, .ref a3, .int 0, .int 0, .int 0, .int 0, .int 0, .long 0])), (a1, .inl (k0, 256, .inl f_1))] t.heap ∧ va_K (dC, dI) CL [(k0, .int)] t ∧ va_D (va_A [(a0, .inr (8, [.ref a1, .ref a2, .ref a3, .int 0, .int 0, .int 0, .int 0, .int 0, .long 0])), (a1, .inl (k0, 256, .inl f0))] sz) [(a0, .inr (8, [.ref a1, .ref a2, .ref a3, .int 0, .int 0, .int 0, .int 0, .int 0, .long 0])), (a1, .inl (k0, 256, .inl f_1))]) (va_A [(a0, .inr (8, [.ref a1, .ref a2, .ref a3, .int 0, .int 0, .int 0, .int 0, .int 0, .long 0])), (a1, .inl (k0, 256, .inl f0))] sz)) 0 0 (va_A [(a0, .inr (8, [.ref a1, .ref a2, .ref a3, .int 0, .int 0, .int 0, .int 0, .int 0, .long 0])), (a1, .inl (k0, 256, .inl f0))] sz) := by
  refine Met.ofW (cc := cX8_sortBytes) (maxL := 4) (ret := none) (by decide) rfl ?_
  intro p e s m args below meth c s₁ B hml hv
  obtain ⟨rfl, hsz, hP, hK, hD0, hC⟩ := hv
  have hx := B.exec
  have hb := B.bytes
  have hr := B.returns
  have hts0 := atoms_spec (ws := Cond.code yX8_sortBytes cX8_sortBytes 4 none :: TB) B.pre
  have hts : ∀ w ∈ TB, w.before _ s = true := fun w h => hts0 w (List.mem_cons_of_mem _ h)
  have hown : s.vm.findClass RX8 = some m.cls := findClass_of_methodNamed B.named
  have hlocks := B.notSynchronized
  subst hsz
  have hD := hD0.self (sz := s.heap.size)
  generalize hAe : va_A [(a0, .inr (8, [.ref a1, .ref a2, .ref a3, .int 0, .int 0, .int 0, .int 0, .int 0, .long 0])), (a1, .inl (k0, 256, .inl f0))] s.heap.size = A at hD hC ⊢
  have hA : ∀ q : Nat, s.heap.size ≤ q → A q := fun q h => by rw [← hAe]; exact Or.inr h
  have hl := lv_entry ([.ref a0, .ref (adK 1), .int 2]) (n := 4) (Nat.le_of_ble_eq_true rfl)
  rw [lg_entry_eq]
  generalize (lg_sl ([.ref a0, .ref (adK 1), .int 2]) ++ List.replicate (4 - (lg_sl ([.ref a0, .ref (adK 1), .int 2])).length) Slot.unset).toArray = ls at hl ⊢
  have hl : lv_has ls 4 [(0, .ref a0), (1, .ref (adK 1)), (2, .int 2)] := hl
  have hP : va_P (dC, dI) CL [(a0, .inr (8, [.ref a1, .ref a2, .ref a3, .int 0, .int 0, .int 0, .int 0, .int 0, .long 0])), (a1, .inl (k0, 256, .inl f0))] s.heap := hP
  obtain ⟨H, hH⟩ : ∃ z, z = s.heap := ⟨_, rfl⟩
  rw [← hH] at hP ⊢
  have hS : va_S A s.heap H [] := by rw [hH]; exact va_S.rf
  refine lv_iconst (v := 0) hx hb dX8_sortBytes_0 (by decide) ?_
  refine lv_istore_n (lv' := [(3, .int 0), (0, .ref a0), (1, .ref (adK 1)), (2, .int 2)]) hx hb dX8_sortBytes_1 rfl hl (by decide) rfl (fun ls hl => ?_)
  refine lpX8_sortBytes_2_2 hx hb hml hown hts hC hA hK (fun f_1 H locs ls hP hD hS hl => ?_) 26 0 rfl f0 _ _ _ hP hD hS (lv_sub hl [0, 1, 2, 3] rfl)
  have hP : va_P (dC, dI) CL [(a0, .inr (8, [.ref a1, .ref a2, .ref a3, .int 0, .int 0, .int 0, .int 0, .int 0, .long 0])), (a1, .inl (k0, 256, .inl f_1))] H := hP
  have hD : va_D A [(a0, .inr (8, [.ref a1, .ref a2, .ref a3, .int 0, .int 0, .int 0, .int 0, .int 0, .long 0])), (a1, .inl (k0, 256, .inl f_1))] := hD
  have hl : lv_has ls 4 [(3, .int 26), (0, .ref a0), (1, .ref (adK 1)), (2, .int 2)] := hl
  refine lv_iload_n hx hb dX8_sortBytes_2 rfl (lv_at hl 0 rfl) ?_
  refine lv_aload_n hx hb dX8_sortBytes_3 rfl (lv_at hl 2 rfl) ?_
  have hPc := hP.sub (ws' := []) [] rfl
  have hDc := hD.sub (ws' := []) [] (by decide) rfl
  have hKc := hK.sub (tys' := []) [] rfl
  have hFc := va_free (wc := []) hD hS hA [] rfl
  refine va_calli (va_runV (As := []) (rest := [.int 26]) ⟨hx, hb, hml, hown, hts⟩ (cJ_len l dC dI adK adV H.size 1 26 (by decide) rfl) (cwV 0 hts (tb_V mw_326 mw_327 mw_328 mw_108 mw_329) rfl rfl rfl (by decide +kernel) ⟨Nat.le_of_ble_eq_true rfl, Nat.le_of_ble_eq_true rfl⟩) ⟨XB, vk_recv hC.p15 (i := 1) (by decide) hS, XQ (av := [.ref (adK 1)]) hPc hKc hDc hC hS hFc⟩ rfl rfl hl.1 rfl (lv_room (Nat.le_of_ble_eq_true rfl)) dX8_sortBytes_4 ⟨Nat.le_of_ble_eq_true rfl, Nat.le_of_ble_eq_true rfl⟩) hS (fun q _ h => hFc q h) hFc (fun r_2 u_9 t H1 locs ht hvm hw hB hz1 hk1 hS => ?_)
  try dsimp only at hw
  obtain ⟨hP, hD⟩ := va_join (wr := [(a0, .inr (8, [.ref a1, .ref a2, .ref a3, .int 0, .int 0, .int 0, .int 0, .int 0, .long 0])), (a1, .inl (k0, 256, .inl f_1))]) (w1 := []) hP hD [] [0, 1] rfl rfl (by decide) (by decide) hk1 hFc (fun k q h => by simp at h) ⟨fun i j p q h => by simp at h, fun k q h => by simp at h⟩
  have hK := hK.sub (tys' := [(k0, .int)]) [0] rfl
  generalize H1 = H at hP hS ⊢
  have hP : va_P (dC, dI) CL [(a0, .inr (8, [.ref a1, .ref a2, .ref a3, .int 0, .int 0, .int 0, .int 0, .int 0, .long 0])), (a1, .inl (k0, 256, .inl f_1))] H := hP
  have hD : va_D A [(a0, .inr (8, [.ref a1, .ref a2, .ref a3, .int 0, .int 0, .int 0, .int 0, .int 0, .long 0])), (a1, .inl (k0, 256, .inl f_1))] := hD
  have hK : va_K (dC, dI) CL [(k0, .int)] s := hK
  subst hw
  refine lv_icmp_ge (tgt := 31) hx hb dX8_sortBytes_7 (by decide) (fun _ => ?_) (fun h => (h (by decide)).elim)
  refine W.widen (k := 0) (n := 0) (Nat.le_of_ble_eq_true rfl) (Nat.le_of_ble_eq_true rfl) ?_
  have hP9 := hP.sub (ws' := [(a0, .inr (8, [.ref a1, .ref a2, .ref a3, .int 0, .int 0, .int 0, .int 0, .int 0, .long 0])), (a1, .inl (k0, 256, .inl f_1))]) [0, 1] rfl
  have hD9 := hD.sub (ws' := [(a0, .inr (8, [.ref a1, .ref a2, .ref a3, .int 0, .int 0, .int 0, .int 0, .int 0, .long 0])), (a1, .inl (k0, 256, .inl f_1))]) [0, 1] (by decide) rfl
  have hK9 := hK.sub (tys' := [(k0, .int)]) [0] rfl
  exact W.vret hx hb hr (fun t ht hW => ⟨⟨(), rfl, trivial, f_1, by rw [ht]; exact hP9, va_K.moved hW.alike hK9, hD9⟩, hS.F ht⟩) hS.2.2 dX8_sortBytes_31
set_option maxHeartbeats 4000000 in
set_option maxRecDepth 100000 in
theorem lpX8_sortBytes_3_2 {p : Program} {l : Launch} {e : Env} {s : State} {m : MethodId} {args : Array Value} {below : List Frame} {meth : Method} {c : Code} {Q : State → Prop} {dC : Nat → ClassId} {dI : Nat → Nat → Nat} {adK adV : Nat → Nat} {A : Nat → Prop} {a0 : Nat} {a1 : Nat} {a2 : Nat} {a3 : Nat} {k0 : ClassId} (hx : p.tables.exec = Jvm.exec) (hb : c.code = cX8_sortBytes) (hml : c.maxLocals = 4) (hown : s.vm.findClass RX8 = some m.cls) (hts : ∀ w ∈ TB, w.before args s = true) (hC : XC adK adV A s s.heap) (hA : ∀ q : Nat, s.heap.size ≤ q → A q) (hK : va_K (dC, dI) CL [(k0, .int)] s) (kk : ∀ (g0 : Nat → Int32) (H : Heap) (locs : List Loc) (ls : Array Slot), va_P (dC, dI) CL [(a0, .inr (8, [.ref a1, .ref a2, .ref a3, .int 0, .int 0, .int 0, .int 0, .int 0, .long 0])), (a1, .inl (k0, 256, .inl g0))] H → va_D A [(a0, .inr (8, [.ref a1, .ref a2, .ref a3, .int 0, .int 0, .int 0, .int 0, .int 0, .long 0])), (a1, .inl (k0, 256, .inl g0))] → va_S A s.heap H locs → lv_has ls 4 [(3, .int 10), (0, .ref a0), (1, .ref (adK 2)), (2, .int 3)] → W p l e (headSpec (Cond.code yX8_sortBytes cX8_sortBytes 4 none :: TB) ({ frames := 5, cells := 0, slots := 0, locals := 321 })).room s m args below meth c H locs 0 0 Q (F0 m 2 ls [])) : ∀ (n i : Nat), i + n = 10 → ∀ (g0 : Nat → Int32) (H : Heap) (locs : List Loc) (ls : Array Slot), va_P (dC, dI) CL [(a0, .inr (8, [.ref a1, .ref a2, .ref a3, .int 0, .int 0, .int 0, .int 0, .int 0, .long 0])), (a1, .inl (k0, 256, .inl g0))] H → va_D A [(a0, .inr (8, [.ref a1, .ref a2, .ref a3, .int 0, .int 0, .int 0, .int 0, .int 0, .long 0])), (a1, .inl (k0, 256, .inl g0))] → va_S A s.heap H locs → lv_has ls 4 [(3, .int (nI i)), (0, .ref a0), (1, .ref (adK 2)), (2, .int 3)] → W p l e (headSpec (Cond.code yX8_sortBytes cX8_sortBytes 4 none :: TB) ({ frames := 5, cells := 0, slots := 0, locals := 321 })).room s m args below meth c H locs 0 0 Q (F0 m 2 ls []) := by
  intro n
  induction n with
  | zero =>
    intro i hi g0  H locs ls hP hD hS hl
    have hi : i = 10 := by omega
    subst hi
    exact kk g0  H locs ls hP hD hS hl
  | succ n ih =>
    intro i hi g0  H locs ls hP hD hS hl
    have hlt : i < 10 := by omega
    refine lv_iload_n hx hb dX8_sortBytes_2 rfl (lv_at hl 0 rfl) ?_
    refine lv_aload_n hx hb dX8_sortBytes_3 rfl (lv_at hl 2 rfl) ?_
    have hPc := hP.sub (ws' := []) [] rfl
    have hDc := hD.sub (ws' := []) [] (by decide) rfl
    have hKc := hK.sub (tys' := []) [] rfl
    have hFc := va_free (wc := []) hD hS hA [] rfl
    refine va_calli (va_runV (As := []) (rest := [.int (nI i)]) ⟨hx, hb, hml, hown, hts⟩ (cJ_len l dC dI adK adV H.size 2 10 (by decide) rfl) (cwV 0 hts (tb_V mw_326 mw_327 mw_328 mw_108 mw_329) rfl rfl rfl (by decide +kernel) ⟨Nat.le_of_ble_eq_true rfl, Nat.le_of_ble_eq_true rfl⟩) ⟨XB, vk_recv hC.p15 (i := 2) (by decide) hS, XQ (av := [.ref (adK 2)]) hPc hKc hDc hC hS hFc⟩ rfl rfl hl.1 rfl (lv_room (Nat.le_of_ble_eq_true rfl)) dX8_sortBytes_4 ⟨Nat.le_of_ble_eq_true rfl, Nat.le_of_ble_eq_true rfl⟩) hS (fun q _ h => hFc q h) hFc (fun r_501 u_9 t H1 locs ht hvm hw hB hz1 hk1 hS => ?_)
    try dsimp only at hw
    obtain ⟨hP, hD⟩ := va_join (wr := [(a0, .inr (8, [.ref a1, .ref a2, .ref a3, .int 0, .int 0, .int 0, .int 0, .int 0, .long 0])), (a1, .inl (k0, 256, .inl g0))]) (w1 := []) hP hD [] [0, 1] rfl rfl (by decide) (by decide) hk1 hFc (fun k q h => by simp at h) ⟨fun i j p q h => by simp at h, fun k q h => by simp at h⟩
    have hK := hK.sub (tys' := [(k0, .int)]) [0] rfl
    generalize H1 = H at hP hS ⊢
    have hP : va_P (dC, dI) CL [(a0, .inr (8, [.ref a1, .ref a2, .ref a3, .int 0, .int 0, .int 0, .int 0, .int 0, .long 0])), (a1, .inl (k0, 256, .inl g0))] H := hP
    have hD : va_D A [(a0, .inr (8, [.ref a1, .ref a2, .ref a3, .int 0, .int 0, .int 0, .int 0, .int 0, .long 0])), (a1, .inl (k0, 256, .inl g0))] := hD
    have hK : va_K (dC, dI) CL [(k0, .int)] s := hK
    subst hw
    refine lv_icmp_ge (tgt := 31) hx hb dX8_sortBytes_7 (by decide) (fun h => absurd h (nI_ge (a := i) (b := 10) hlt (by decide))) (fun _ => ?_)
    refine lv_aload_n hx hb dX8_sortBytes_10 rfl (lv_at hl 1 rfl) ?_
    refine va_get (D := (dC, dI)) (ci := 8) (v := .ref a1) (C := RX8) (T := TX8) (N := 9) hx hb hts iwX8 hown hK hP 0 rfl rfl 0 (by decide) (hts _ mw_378) (fun _ h9 => h9) rfl dX8_sortBytes_11 ?_
    refine lv_aload_n hx hb dX8_sortBytes_14 rfl (lv_at hl 2 rfl) ?_
    refine lv_iload_n hx hb dX8_sortBytes_15 rfl (lv_at hl 0 rfl) ?_
    have hPc := hP.sub (ws' := []) [] rfl
    have hDc := hD.sub (ws' := []) [] (by decide) rfl
    have hKc := hK.sub (tys' := []) [] rfl
    have hFc := va_free (wc := []) hD hS hA [] rfl
    refine va_calli (va_runV (As := [.int (nI i)]) (rest := [.ref a1]) ⟨hx, hb, hml, hown, hts⟩ (cJ_chr l dC dI adK adV H.size 2 i (by decide) hlt) (cwV 1 hts (tb_V mw_336 mw_337 mw_338 mw_108 mw_339) rfl rfl rfl (by decide +kernel) ⟨Nat.le_of_ble_eq_true rfl, Nat.le_of_ble_eq_true rfl⟩) ⟨XB, vk_recv hC.p15 (i := 2) (by decide) hS, XQ (av := [.ref (adK 2), .int (nI i)]) hPc hKc hDc hC hS hFc⟩ rfl rfl hl.1 rfl (lv_room (Nat.le_of_ble_eq_true rfl)) dX8_sortBytes_16 ⟨Nat.le_of_ble_eq_true rfl, Nat.le_of_ble_eq_true rfl⟩) hS (fun q _ h => hFc q h) hFc (fun r_502 u_9 t H1 locs ht hvm hw hB hz1 hk1 hS => ?_)
    try dsimp only at hw
    obtain ⟨hP, hD⟩ := va_join (wr := [(a0, .inr (8, [.ref a1, .ref a2, .ref a3, .int 0, .int 0, .int 0, .int 0, .int 0, .long 0])), (a1, .inl (k0, 256, .inl g0))]) (w1 := []) hP hD [] [0, 1] rfl rfl (by decide) (by decide) hk1 hFc (fun k q h => by simp at h) ⟨fun i j p q h => by simp at h, fun k q h => by simp at h⟩
    have hK := hK.sub (tys' := [(k0, .int)]) [0] rfl
    generalize H1 = H at hP hS ⊢
    have hP : va_P (dC, dI) CL [(a0, .inr (8, [.ref a1, .ref a2, .ref a3, .int 0, .int 0, .int 0, .int 0, .int 0, .long 0])), (a1, .inl (k0, 256, .inl g0))] H := hP
    have hD : va_D A [(a0, .inr (8, [.ref a1, .ref a2, .ref a3, .int 0, .int 0, .int 0, .int 0, .int 0, .long 0])), (a1, .inl (k0, 256, .inl g0))] := hD
    have hK : va_K (dC, dI) CL [(k0, .int)] s := hK
    refine lv_sipush (v := 255) hx hb dX8_sortBytes_19 (by decide) ?_
    refine lv_iand hx hb dX8_sortBytes_22 ?_
    refine lv_topi (fun v_503 ev_503 => ?_)
    refine lv_iload_n hx hb dX8_sortBytes_23 rfl (lv_at hl 3 rfl) ?_
    refine xh_iast hx hb hK hP hD hS 1 0 rfl rfl (by rw [ev_503]; exact pk_andIn _ 8 (by decide) (by decide)) dX8_sortBytes_24 (fun f_504 H locs hP hD hS => ?_)
    have hP : va_P (dC, dI) CL [(a0, .inr (8, [.ref a1, .ref a2, .ref a3, .int 0, .int 0, .int 0, .int 0, .int 0, .long 0])), (a1, .inl (k0, 256, .inl f_504))] H := hP
    have hD : va_D A [(a0, .inr (8, [.ref a1, .ref a2, .ref a3, .int 0, .int 0, .int 0, .int 0, .int 0, .long 0])), (a1, .inl (k0, 256, .inl f_504))] := hD
    refine lv_iinc (v := (nI (i + 1))) (lv' := [(3, .int (nI (i + 1))), (0, .ref a0), (1, .ref (adK 2)), (2, .int 3)]) hx hb dX8_sortBytes_25 hl (k := 0) rfl (nI_1 _) (by decide) rfl (fun ls hl => ?_)
    refine lv_goto (tgt := 2) hx hb dX8_sortBytes_28 (by decide) ?_
    exact ih (i + 1) (by omega) f_504 _ _ _ (hP.sub [0, 1] rfl) (hD.sub [0, 1] (by decide) rfl) hS (lv_sub hl [0, 1, 2, 3] rfl)
set_option maxHeartbeats 4000000 in
set_option maxRecDepth 100000 in
theorem zX8_sortBytes_3 (l : Launch) (dC : Nat → ClassId) (dI : Nat → Nat → Nat) (adK adV : Nat → Nat) (sz : Nat) (a0 : Nat) (a1 : Nat) (a2 : Nat) (a3 : Nat) (k0 : ClassId) (f0 : Nat → Int32) : Met l yX8_sortBytes (Cond.code yX8_sortBytes cX8_sortBytes 4 none :: TB) ({ frames := 5, cells := 0, slots := 0, locals := 321 }) (XP (dC, dI) adK adV [.ref a0, .ref (adK 2), .int 3] sz [(a0, .inr (8, [.ref a1, .ref a2, .ref a3, .int 0, .int 0, .int 0, .int 0, .int 0, .long 0])), (a1, .inl (k0, 256, .inl f0))] [(k0, .int)]) (va_Qv (fun _ : Unit => True) (fun _ t => ∃ f_1 : Nat → Int32, va_P (dC, dI) CL [(a0, .inr (8, [.ref a1, .ref a2, .ref a3, .int 0, .int 0, .int 0, .int 0, .int 0, .long 0])), (a1, .inl (k0, 256, .inl f_1))] t.heap ∧ va_K (dC, dI) CL [(k0, .int)] t ∧ va_D (va_A [(a0, .inr (8, [.ref a1, .ref a2, .ref a3, .int 0, .int 0, .int 0, .int 0, .int 0, .long 0])), (a1, .inl (k0, 256, .inl f0))] sz) [(a0, .inr (8, [.ref a1, .ref a2, .ref a3, .int 0, .int 0, .int 0, .int 0, .int 0, .long 0])), (a1, .inl (k0, 256, .inl f_1))]) (va_A [(a0, .inr (8, [.ref a1, .ref a2, .ref a3, .int 0, .int 0, .int 0, .int 0, .int 0, .long 0])), (a1, .inl (k0, 256, .inl f0))] sz)) 0 0 (va_A [(a0, .inr (8, [.ref a1, .ref a2, .ref a3, .int 0, .int 0, .int 0, .int 0, .int 0, .long 0])), (a1, .inl (k0, 256, .inl f0))] sz) := by
  refine Met.ofW (cc := cX8_sortBytes) (maxL := 4) (ret := none) (by decide) rfl ?_
  intro p e s m args below meth c s₁ B hml hv
  obtain ⟨rfl, hsz, hP, hK, hD0, hC⟩ := hv
  have hx := B.exec
  have hb := B.bytes
  have hr := B.returns
  have hts0 := atoms_spec (ws := Cond.code yX8_sortBytes cX8_sortBytes 4 none :: TB) B.pre
  have hts : ∀ w ∈ TB, w.before _ s = true := fun w h => hts0 w (List.mem_cons_of_mem _ h)
  have hown : s.vm.findClass RX8 = some m.cls := findClass_of_methodNamed B.named
  have hlocks := B.notSynchronized
  subst hsz
  have hD := hD0.self (sz := s.heap.size)
  generalize hAe : va_A [(a0, .inr (8, [.ref a1, .ref a2, .ref a3, .int 0, .int 0, .int 0, .int 0, .int 0, .long 0])), (a1, .inl (k0, 256, .inl f0))] s.heap.size = A at hD hC ⊢
  have hA : ∀ q : Nat, s.heap.size ≤ q → A q := fun q h => by rw [← hAe]; exact Or.inr h
  have hl := lv_entry ([.ref a0, .ref (adK 2), .int 3]) (n := 4) (Nat.le_of_ble_eq_true rfl)
  rw [lg_entry_eq]
  generalize (lg_sl ([.ref a0, .ref (adK 2), .int 3]) ++ List.replicate (4 - (lg_sl ([.ref a0, .ref (adK 2), .int 3])).length) Slot.unset).toArray = ls at hl ⊢
  have hl : lv_has ls 4 [(0, .ref a0), (1, .ref (adK 2)), (2, .int 3)] := hl
  have hP : va_P (dC, dI) CL [(a0, .inr (8, [.ref a1, .ref a2, .ref a3, .int 0, .int 0, .int 0, .int 0, .int 0, .long 0])), (a1, .inl (k0, 256, .inl f0))] s.heap := hP
  obtain ⟨H, hH⟩ : ∃ z, z = s.heap := ⟨_, rfl⟩
  rw [← hH] at hP ⊢
  have hS : va_S A s.heap H [] := by rw [hH]; exact va_S.rf
  refine lv_iconst (v := 0) hx hb dX8_sortBytes_0 (by decide) ?_
  refine lv_istore_n (lv' := [(3, .int 0), (0, .ref a0), (1, .ref (adK 2)), (2, .int 3)]) hx hb dX8_sortBytes_1 rfl hl (by decide) rfl (fun ls hl => ?_)
  refine lpX8_sortBytes_3_2 hx hb hml hown hts hC hA hK (fun f_1 H locs ls hP hD hS hl => ?_) 10 0 rfl f0 _ _ _ hP hD hS (lv_sub hl [0, 1, 2, 3] rfl)
  have hP : va_P (dC, dI) CL [(a0, .inr (8, [.ref a1, .ref a2, .ref a3, .int 0, .int 0, .int 0, .int 0, .int 0, .long 0])), (a1, .inl (k0, 256, .inl f_1))] H := hP
  have hD : va_D A [(a0, .inr (8, [.ref a1, .ref a2, .ref a3, .int 0, .int 0, .int 0, .int 0, .int 0, .long 0])), (a1, .inl (k0, 256, .inl f_1))] := hD
  have hl : lv_has ls 4 [(3, .int 10), (0, .ref a0), (1, .ref (adK 2)), (2, .int 3)] := hl
  refine lv_iload_n hx hb dX8_sortBytes_2 rfl (lv_at hl 0 rfl) ?_
  refine lv_aload_n hx hb dX8_sortBytes_3 rfl (lv_at hl 2 rfl) ?_
  have hPc := hP.sub (ws' := []) [] rfl
  have hDc := hD.sub (ws' := []) [] (by decide) rfl
  have hKc := hK.sub (tys' := []) [] rfl
  have hFc := va_free (wc := []) hD hS hA [] rfl
  refine va_calli (va_runV (As := []) (rest := [.int 10]) ⟨hx, hb, hml, hown, hts⟩ (cJ_len l dC dI adK adV H.size 2 10 (by decide) rfl) (cwV 0 hts (tb_V mw_326 mw_327 mw_328 mw_108 mw_329) rfl rfl rfl (by decide +kernel) ⟨Nat.le_of_ble_eq_true rfl, Nat.le_of_ble_eq_true rfl⟩) ⟨XB, vk_recv hC.p15 (i := 2) (by decide) hS, XQ (av := [.ref (adK 2)]) hPc hKc hDc hC hS hFc⟩ rfl rfl hl.1 rfl (lv_room (Nat.le_of_ble_eq_true rfl)) dX8_sortBytes_4 ⟨Nat.le_of_ble_eq_true rfl, Nat.le_of_ble_eq_true rfl⟩) hS (fun q _ h => hFc q h) hFc (fun r_2 u_9 t H1 locs ht hvm hw hB hz1 hk1 hS => ?_)
  try dsimp only at hw
  obtain ⟨hP, hD⟩ := va_join (wr := [(a0, .inr (8, [.ref a1, .ref a2, .ref a3, .int 0, .int 0, .int 0, .int 0, .int 0, .long 0])), (a1, .inl (k0, 256, .inl f_1))]) (w1 := []) hP hD [] [0, 1] rfl rfl (by decide) (by decide) hk1 hFc (fun k q h => by simp at h) ⟨fun i j p q h => by simp at h, fun k q h => by simp at h⟩
  have hK := hK.sub (tys' := [(k0, .int)]) [0] rfl
  generalize H1 = H at hP hS ⊢
  have hP : va_P (dC, dI) CL [(a0, .inr (8, [.ref a1, .ref a2, .ref a3, .int 0, .int 0, .int 0, .int 0, .int 0, .long 0])), (a1, .inl (k0, 256, .inl f_1))] H := hP
  have hD : va_D A [(a0, .inr (8, [.ref a1, .ref a2, .ref a3, .int 0, .int 0, .int 0, .int 0, .int 0, .long 0])), (a1, .inl (k0, 256, .inl f_1))] := hD
  have hK : va_K (dC, dI) CL [(k0, .int)] s := hK
  subst hw
  refine lv_icmp_ge (tgt := 31) hx hb dX8_sortBytes_7 (by decide) (fun _ => ?_) (fun h => (h (by decide)).elim)
  refine W.widen (k := 0) (n := 0) (Nat.le_of_ble_eq_true rfl) (Nat.le_of_ble_eq_true rfl) ?_
  have hP9 := hP.sub (ws' := [(a0, .inr (8, [.ref a1, .ref a2, .ref a3, .int 0, .int 0, .int 0, .int 0, .int 0, .long 0])), (a1, .inl (k0, 256, .inl f_1))]) [0, 1] rfl
  have hD9 := hD.sub (ws' := [(a0, .inr (8, [.ref a1, .ref a2, .ref a3, .int 0, .int 0, .int 0, .int 0, .int 0, .long 0])), (a1, .inl (k0, 256, .inl f_1))]) [0, 1] (by decide) rfl
  have hK9 := hK.sub (tys' := [(k0, .int)]) [0] rfl
  exact W.vret hx hb hr (fun t ht hW => ⟨⟨(), rfl, trivial, f_1, by rw [ht]; exact hP9, va_K.moved hW.alike hK9, hD9⟩, hS.F ht⟩) hS.2.2 dX8_sortBytes_31
set_option maxHeartbeats 4000000 in
set_option maxRecDepth 100000 in
theorem lpX8_sortBytes_4_2 {p : Program} {l : Launch} {e : Env} {s : State} {m : MethodId} {args : Array Value} {below : List Frame} {meth : Method} {c : Code} {Q : State → Prop} {dC : Nat → ClassId} {dI : Nat → Nat → Nat} {adK adV : Nat → Nat} {A : Nat → Prop} {a0 : Nat} {a1 : Nat} {a2 : Nat} {a3 : Nat} {k0 : ClassId} (hx : p.tables.exec = Jvm.exec) (hb : c.code = cX8_sortBytes) (hml : c.maxLocals = 4) (hown : s.vm.findClass RX8 = some m.cls) (hts : ∀ w ∈ TB, w.before args s = true) (hC : XC adK adV A s s.heap) (hA : ∀ q : Nat, s.heap.size ≤ q → A q) (hK : va_K (dC, dI) CL [(k0, .int)] s) (kk : ∀ (g0 : Nat → Int32) (H : Heap) (locs : List Loc) (ls : Array Slot), va_P (dC, dI) CL [(a0, .inr (8, [.ref a1, .ref a2, .ref a3, .int 0, .int 0, .int 0, .int 0, .int 0, .long 0])), (a1, .inl (k0, 256, .inl g0))] H → va_D A [(a0, .inr (8, [.ref a1, .ref a2, .ref a3, .int 0, .int 0, .int 0, .int 0, .int 0, .long 0])), (a1, .inl (k0, 256, .inl g0))] → va_S A s.heap H locs → lv_has ls 4 [(3, .int 11), (0, .ref a0), (1, .ref (adK 3)), (2, .int 4)] → W p l e (headSpec (Cond.code yX8_sortBytes cX8_sortBytes 4 none :: TB) ({ frames := 5, cells := 0, slots := 0, locals := 321 })).room s m args below meth c H locs 0 0 Q (F0 m 2 ls [])) : ∀ (n i : Nat), i + n = 11 → ∀ (g0 : Nat → Int32) (H : Heap) (locs : List Loc) (ls : Array Slot), va_P (dC, dI) CL [(a0, .inr (8, [.ref a1, .ref a2, .ref a3, .int 0, .int 0, .int 0, .int 0, .int 0, .long 0])), (a1, .inl (k0, 256, .inl g0))] H → va_D A [(a0, .inr (8, [.ref a1, .ref a2, .ref a3, .int 0, .int 0, .int 0, .int 0, .int 0, .long 0])), (a1, .inl (k0, 256, .inl g0))] → va_S A s.heap H locs → lv_has ls 4 [(3, .int (nI i)), (0, .ref a0), (1, .ref (adK 3)), (2, .int 4)] → W p l e (headSpec (Cond.code yX8_sortBytes cX8_sortBytes 4 none :: TB) ({ frames := 5, cells := 0, slots := 0, locals := 321 })).room s m args below meth c H locs 0 0 Q (F0 m 2 ls []) := by
  intro n
  induction n with
  | zero =>
    intro i hi g0  H locs ls hP hD hS hl
    have hi : i = 11 := by omega
    subst hi
    exact kk g0  H locs ls hP hD hS hl
  | succ n ih =>
    intro i hi g0  H locs ls hP hD hS hl
    have hlt : i < 11 := by omega
    refine lv_iload_n hx hb dX8_sortBytes_2 rfl (lv_at hl 0 rfl) ?_
    refine lv_aload_n hx hb dX8_sortBytes_3 rfl (lv_at hl 2 rfl) ?_
    have hPc := hP.sub (ws' := []) [] rfl
    have hDc := hD.sub (ws' := []) [] (by decide) rfl
    have hKc := hK.sub (tys' := []) [] rfl
    have hFc := va_free (wc := []) hD hS hA [] rfl
    refine va_calli (va_runV (As := []) (rest := [.int (nI i)]) ⟨hx, hb, hml, hown, hts⟩ (cJ_len l dC dI adK adV H.size 3 11 (by decide) rfl) (cwV 0 hts (tb_V mw_326 mw_327 mw_328 mw_108 mw_329) rfl rfl rfl (by decide +kernel) ⟨Nat.le_of_ble_eq_true rfl, Nat.le_of_ble_eq_true rfl⟩) ⟨XB, vk_recv hC.p15 (i := 3) (by decide) hS, XQ (av := [.ref (adK 3)]) hPc hKc hDc hC hS hFc⟩ rfl rfl hl.1 rfl (lv_room (Nat.le_of_ble_eq_true rfl)) dX8_sortBytes_4 ⟨Nat.le_of_ble_eq_true rfl, Nat.le_of_ble_eq_true rfl⟩) hS (fun q _ h => hFc q h) hFc (fun r_501 u_9 t H1 locs ht hvm hw hB hz1 hk1 hS => ?_)
    try dsimp only at hw
    obtain ⟨hP, hD⟩ := va_join (wr := [(a0, .inr (8, [.ref a1, .ref a2, .ref a3, .int 0, .int 0, .int 0, .int 0, .int 0, .long 0])), (a1, .inl (k0, 256, .inl g0))]) (w1 := []) hP hD [] [0, 1] rfl rfl (by decide) (by decide) hk1 hFc (fun k q h => by simp at h) ⟨fun i j p q h => by simp at h, fun k q h => by simp at h⟩
    have hK := hK.sub (tys' := [(k0, .int)]) [0] rfl
    generalize H1 = H at hP hS ⊢
    have hP : va_P (dC, dI) CL [(a0, .inr (8, [.ref a1, .ref a2, .ref a3, .int 0, .int 0, .int 0, .int 0, .int 0, .long 0])), (a1, .inl (k0, 256, .inl g0))] H := hP
    have hD : va_D A [(a0, .inr (8, [.ref a1, .ref a2, .ref a3, .int 0, .int 0, .int 0, .int 0, .int 0, .long 0])), (a1, .inl (k0, 256, .inl g0))] := hD
    have hK : va_K (dC, dI) CL [(k0, .int)] s := hK
    subst hw
    refine lv_icmp_ge (tgt := 31) hx hb dX8_sortBytes_7 (by decide) (fun h => absurd h (nI_ge (a := i) (b := 11) hlt (by decide))) (fun _ => ?_)
    refine lv_aload_n hx hb dX8_sortBytes_10 rfl (lv_at hl 1 rfl) ?_
    refine va_get (D := (dC, dI)) (ci := 8) (v := .ref a1) (C := RX8) (T := TX8) (N := 9) hx hb hts iwX8 hown hK hP 0 rfl rfl 0 (by decide) (hts _ mw_378) (fun _ h9 => h9) rfl dX8_sortBytes_11 ?_
    refine lv_aload_n hx hb dX8_sortBytes_14 rfl (lv_at hl 2 rfl) ?_
    refine lv_iload_n hx hb dX8_sortBytes_15 rfl (lv_at hl 0 rfl) ?_
    have hPc := hP.sub (ws' := []) [] rfl
    have hDc := hD.sub (ws' := []) [] (by decide) rfl
    have hKc := hK.sub (tys' := []) [] rfl
    have hFc := va_free (wc := []) hD hS hA [] rfl
    refine va_calli (va_runV (As := [.int (nI i)]) (rest := [.ref a1]) ⟨hx, hb, hml, hown, hts⟩ (cJ_chr l dC dI adK adV H.size 3 i (by decide) hlt) (cwV 1 hts (tb_V mw_336 mw_337 mw_338 mw_108 mw_339) rfl rfl rfl (by decide +kernel) ⟨Nat.le_of_ble_eq_true rfl, Nat.le_of_ble_eq_true rfl⟩) ⟨XB, vk_recv hC.p15 (i := 3) (by decide) hS, XQ (av := [.ref (adK 3), .int (nI i)]) hPc hKc hDc hC hS hFc⟩ rfl rfl hl.1 rfl (lv_room (Nat.le_of_ble_eq_true rfl)) dX8_sortBytes_16 ⟨Nat.le_of_ble_eq_true rfl, Nat.le_of_ble_eq_true rfl⟩) hS (fun q _ h => hFc q h) hFc (fun r_502 u_9 t H1 locs ht hvm hw hB hz1 hk1 hS => ?_)
    try dsimp only at hw
    obtain ⟨hP, hD⟩ := va_join (wr := [(a0, .inr (8, [.ref a1, .ref a2, .ref a3, .int 0, .int 0, .int 0, .int 0, .int 0, .long 0])), (a1, .inl (k0, 256, .inl g0))]) (w1 := []) hP hD [] [0, 1] rfl rfl (by decide) (by decide) hk1 hFc (fun k q h => by simp at h) ⟨fun i j p q h => by simp at h, fun k q h => by simp at h⟩
    have hK := hK.sub (tys' := [(k0, .int)]) [0] rfl
    generalize H1 = H at hP hS ⊢
    have hP : va_P (dC, dI) CL [(a0, .inr (8, [.ref a1, .ref a2, .ref a3, .int 0, .int 0, .int 0, .int 0, .int 0, .long 0])), (a1, .inl (k0, 256, .inl g0))] H := hP
    have hD : va_D A [(a0, .inr (8, [.ref a1, .ref a2, .ref a3, .int 0, .int 0, .int 0, .int 0, .int 0, .long 0])), (a1, .inl (k0, 256, .inl g0))] := hD
    have hK : va_K (dC, dI) CL [(k0, .int)] s := hK
    refine lv_sipush (v := 255) hx hb dX8_sortBytes_19 (by decide) ?_
    refine lv_iand hx hb dX8_sortBytes_22 ?_
    refine lv_topi (fun v_503 ev_503 => ?_)
    refine lv_iload_n hx hb dX8_sortBytes_23 rfl (lv_at hl 3 rfl) ?_
    refine xh_iast hx hb hK hP hD hS 1 0 rfl rfl (by rw [ev_503]; exact pk_andIn _ 8 (by decide) (by decide)) dX8_sortBytes_24 (fun f_504 H locs hP hD hS => ?_)
    have hP : va_P (dC, dI) CL [(a0, .inr (8, [.ref a1, .ref a2, .ref a3, .int 0, .int 0, .int 0, .int 0, .int 0, .long 0])), (a1, .inl (k0, 256, .inl f_504))] H := hP
    have hD : va_D A [(a0, .inr (8, [.ref a1, .ref a2, .ref a3, .int 0, .int 0, .int 0, .int 0, .int 0, .long 0])), (a1, .inl (k0, 256, .inl f_504))] := hD
    refine lv_iinc (v := (nI (i + 1))) (lv' := [(3, .int (nI (i + 1))), (0, .ref a0), (1, .ref (adK 3)), (2, .int 4)]) hx hb dX8_sortBytes_25 hl (k := 0) rfl (nI_1 _) (by decide) rfl (fun ls hl => ?_)
    refine lv_goto (tgt := 2) hx hb dX8_sortBytes_28 (by decide) ?_
    exact ih (i + 1) (by omega) f_504 _ _ _ (hP.sub [0, 1] rfl) (hD.sub [0, 1] (by decide) rfl) hS (lv_sub hl [0, 1, 2, 3] rfl)
set_option maxHeartbeats 4000000 in
set_option maxRecDepth 100000 in
theorem zX8_sortBytes_4 (l : Launch) (dC : Nat → ClassId) (dI : Nat → Nat → Nat) (adK adV : Nat → Nat) (sz : Nat) (a0 : Nat) (a1 : Nat) (a2 : Nat) (a3 : Nat) (k0 : ClassId) (f0 : Nat → Int32) : Met l yX8_sortBytes (Cond.code yX8_sortBytes cX8_sortBytes 4 none :: TB) ({ frames := 5, cells := 0, slots := 0, locals := 321 }) (XP (dC, dI) adK adV [.ref a0, .ref (adK 3), .int 4] sz [(a0, .inr (8, [.ref a1, .ref a2, .ref a3, .int 0, .int 0, .int 0, .int 0, .int 0, .long 0])), (a1, .inl (k0, 256, .inl f0))] [(k0, .int)]) (va_Qv (fun _ : Unit => True) (fun _ t => ∃ f_1 : Nat → Int32, va_P (dC, dI) CL [(a0, .inr (8, [.ref a1, .ref a2, .ref a3, .int 0, .int 0, .int 0, .int 0, .int 0, .long 0])), (a1, .inl (k0, 256, .inl f_1))] t.heap ∧ va_K (dC, dI) CL [(k0, .int)] t ∧ va_D (va_A [(a0, .inr (8, [.ref a1, .ref a2, .ref a3, .int 0, .int 0, .int 0, .int 0, .int 0, .long 0])), (a1, .inl (k0, 256, .inl f0))] sz) [(a0, .inr (8, [.ref a1, .ref a2, .ref a3, .int 0, .int 0, .int 0, .int 0, .int 0, .long 0])), (a1, .inl (k0, 256, .inl f_1))]) (va_A [(a0, .inr (8, [.ref a1, .ref a2, .ref a3, .int 0, .int 0, .int 0, .int 0, .int 0, .long 0])), (a1, .inl (k0, 256, .inl f0))] sz)) 0 0 (va_A [(a0, .inr (8, [.ref a1, .ref a2, .ref a3, .int 0, .int 0, .int 0, .int 0, .int 0, .long 0])), (a1, .inl (k0, 256, .inl f0))] sz) := by
  refine Met.ofW (cc := cX8_sortBytes) (maxL := 4) (ret := none) (by decide) rfl ?_
  intro p e s m args below meth c s₁ B hml hv
  obtain ⟨rfl, hsz, hP, hK, hD0, hC⟩ := hv
  have hx := B.exec
  have hb := B.bytes
  have hr := B.returns
  have hts0 := atoms_spec (ws := Cond.code yX8_sortBytes cX8_sortBytes 4 none :: TB) B.pre
  have hts : ∀ w ∈ TB, w.before _ s = true := fun w h => hts0 w (List.mem_cons_of_mem _ h)
  have hown : s.vm.findClass RX8 = some m.cls := findClass_of_methodNamed B.named
  have hlocks := B.notSynchronized
  subst hsz
  have hD := hD0.self (sz := s.heap.size)
  generalize hAe : va_A [(a0, .inr (8, [.ref a1, .ref a2, .ref a3, .int 0, .int 0, .int 0, .int 0, .int 0, .long 0])), (a1, .inl (k0, 256, .inl f0))] s.heap.size = A at hD hC ⊢
  have hA : ∀ q : Nat, s.heap.size ≤ q → A q := fun q h => by rw [← hAe]; exact Or.inr h
  have hl := lv_entry ([.ref a0, .ref (adK 3), .int 4]) (n := 4) (Nat.le_of_ble_eq_true rfl)
  rw [lg_entry_eq]
  generalize (lg_sl ([.ref a0, .ref (adK 3), .int 4]) ++ List.replicate (4 - (lg_sl ([.ref a0, .ref (adK 3), .int 4])).length) Slot.unset).toArray = ls at hl ⊢
  have hl : lv_has ls 4 [(0, .ref a0), (1, .ref (adK 3)), (2, .int 4)] := hl
  have hP : va_P (dC, dI) CL [(a0, .inr (8, [.ref a1, .ref a2, .ref a3, .int 0, .int 0, .int 0, .int 0, .int 0, .long 0])), (a1, .inl (k0, 256, .inl f0))] s.heap := hP
  obtain ⟨H, hH⟩ : ∃ z, z = s.heap := ⟨_, rfl⟩
  rw [← hH] at hP ⊢
  have hS : va_S A s.heap H [] := by rw [hH]; exact va_S.rf
  refine lv_iconst (v := 0) hx hb dX8_sortBytes_0 (by decide) ?_
  refine lv_istore_n (lv' := [(3, .int 0), (0, .ref a0), (1, .ref (adK 3)), (2, .int 4)]) hx hb dX8_sortBytes_1 rfl hl (by decide) rfl (fun ls hl => ?_)
  refine lpX8_sortBytes_4_2 hx hb hml hown hts hC hA hK (fun f_1 H locs ls hP hD hS hl => ?_) 11 0 rfl f0 _ _ _ hP hD hS (lv_sub hl [0, 1, 2, 3] rfl)
  have hP : va_P (dC, dI) CL [(a0, .inr (8, [.ref a1, .ref a2, .ref a3, .int 0, .int 0, .int 0, .int 0, .int 0, .long 0])), (a1, .inl (k0, 256, .inl f_1))] H := hP
  have hD : va_D A [(a0, .inr (8, [.ref a1, .ref a2, .ref a3, .int 0, .int 0, .int 0, .int 0, .int 0, .long 0])), (a1, .inl (k0, 256, .inl f_1))] := hD
  have hl : lv_has ls 4 [(3, .int 11), (0, .ref a0), (1, .ref (adK 3)), (2, .int 4)] := hl
  refine lv_iload_n hx hb dX8_sortBytes_2 rfl (lv_at hl 0 rfl) ?_
  refine lv_aload_n hx hb dX8_sortBytes_3 rfl (lv_at hl 2 rfl) ?_
  have hPc := hP.sub (ws' := []) [] rfl
  have hDc := hD.sub (ws' := []) [] (by decide) rfl
  have hKc := hK.sub (tys' := []) [] rfl
  have hFc := va_free (wc := []) hD hS hA [] rfl
  refine va_calli (va_runV (As := []) (rest := [.int 11]) ⟨hx, hb, hml, hown, hts⟩ (cJ_len l dC dI adK adV H.size 3 11 (by decide) rfl) (cwV 0 hts (tb_V mw_326 mw_327 mw_328 mw_108 mw_329) rfl rfl rfl (by decide +kernel) ⟨Nat.le_of_ble_eq_true rfl, Nat.le_of_ble_eq_true rfl⟩) ⟨XB, vk_recv hC.p15 (i := 3) (by decide) hS, XQ (av := [.ref (adK 3)]) hPc hKc hDc hC hS hFc⟩ rfl rfl hl.1 rfl (lv_room (Nat.le_of_ble_eq_true rfl)) dX8_sortBytes_4 ⟨Nat.le_of_ble_eq_true rfl, Nat.le_of_ble_eq_true rfl⟩) hS (fun q _ h => hFc q h) hFc (fun r_2 u_9 t H1 locs ht hvm hw hB hz1 hk1 hS => ?_)
  try dsimp only at hw
  obtain ⟨hP, hD⟩ := va_join (wr := [(a0, .inr (8, [.ref a1, .ref a2, .ref a3, .int 0, .int 0, .int 0, .int 0, .int 0, .long 0])), (a1, .inl (k0, 256, .inl f_1))]) (w1 := []) hP hD [] [0, 1] rfl rfl (by decide) (by decide) hk1 hFc (fun k q h => by simp at h) ⟨fun i j p q h => by simp at h, fun k q h => by simp at h⟩
  have hK := hK.sub (tys' := [(k0, .int)]) [0] rfl
  generalize H1 = H at hP hS ⊢
  have hP : va_P (dC, dI) CL [(a0, .inr (8, [.ref a1, .ref a2, .ref a3, .int 0, .int 0, .int 0, .int 0, .int 0, .long 0])), (a1, .inl (k0, 256, .inl f_1))] H := hP
  have hD : va_D A [(a0, .inr (8, [.ref a1, .ref a2, .ref a3, .int 0, .int 0, .int 0, .int 0, .int 0, .long 0])), (a1, .inl (k0, 256, .inl f_1))] := hD
  have hK : va_K (dC, dI) CL [(k0, .int)] s := hK
  subst hw
  refine lv_icmp_ge (tgt := 31) hx hb dX8_sortBytes_7 (by decide) (fun _ => ?_) (fun h => (h (by decide)).elim)
  refine W.widen (k := 0) (n := 0) (Nat.le_of_ble_eq_true rfl) (Nat.le_of_ble_eq_true rfl) ?_
  have hP9 := hP.sub (ws' := [(a0, .inr (8, [.ref a1, .ref a2, .ref a3, .int 0, .int 0, .int 0, .int 0, .int 0, .long 0])), (a1, .inl (k0, 256, .inl f_1))]) [0, 1] rfl
  have hD9 := hD.sub (ws' := [(a0, .inr (8, [.ref a1, .ref a2, .ref a3, .int 0, .int 0, .int 0, .int 0, .int 0, .long 0])), (a1, .inl (k0, 256, .inl f_1))]) [0, 1] (by decide) rfl
  have hK9 := hK.sub (tys' := [(k0, .int)]) [0] rfl
  exact W.vret hx hb hr (fun t ht hW => ⟨⟨(), rfl, trivial, f_1, by rw [ht]; exact hP9, va_K.moved hW.alike hK9, hD9⟩, hS.F ht⟩) hS.2.2 dX8_sortBytes_31
set_option maxHeartbeats 4000000 in
set_option maxRecDepth 100000 in
theorem lpX8_init_90 {p : Program} {l : Launch} {e : Env} {s : State} {m : MethodId} {args : Array Value} {below : List Frame} {meth : Method} {c : Code} {Q : State → Prop} {dC : Nat → ClassId} {dI : Nat → Nat → Nat} {adK adV : Nat → Nat} {A : Nat → Prop} {q_3 : Nat} {k_4 : ClassId} {q_5 : Nat} {k_6 : ClassId} {a0 : Nat} {q_1 : Nat} {k_2 : ClassId} {f_14 : Nat → Int32} (hx : p.tables.exec = Jvm.exec) (hb : c.code = cX8_init) (hml : c.maxLocals = 4) (hown : s.vm.findClass RX8 = some m.cls) (hts : ∀ w ∈ TB, w.before args s = true) (hC : XC adK adV A s s.heap) (hA : ∀ q : Nat, s.heap.size ≤ q → A q) (hK : va_K (dC, dI) CL [(k_4, .long), (k_6, .byte), (k_2, .int)] s) (kk : ∀ (g0 : Nat → Int64) (a : Nat) (ha : a ≤ 117) (H : Heap) (locs : List Loc) (ls : Array Slot), va_P (dC, dI) CL [(q_3, .inl (k_4, 25, .inr (.inl g0))), (q_5, .inl (k_6, 0, .inl (fun _ => 0))), (a0, .inr (8, [.ref q_1, .ref q_3, .ref q_5, .int 0, .int 0, .int 0, .int 0, .int 0, .long 0])), (q_1, .inl (k_2, 256, .inl f_14))] H → va_D A [(q_3, .inl (k_4, 25, .inr (.inl g0))), (q_5, .inl (k_6, 0, .inl (fun _ => 0))), (a0, .inr (8, [.ref q_1, .ref q_3, .ref q_5, .int 0, .int 0, .int 0, .int 0, .int 0, .long 0])), (q_1, .inl (k_2, 256, .inl f_14))] → va_S A s.heap H locs → lv_has ls 4 [(2, .int 117), (1, .int (nI a)), (0, .ref a0)] → W p l e (headSpec (Cond.code yX8_init cX8_init 4 none :: TB) ({ frames := 6, cells := 3, slots := 281, locals := 344 })).room s m args below meth c H locs 3 281 Q (F0 m 90 ls [])) : ∀ (n i : Nat), i + n = 117 → ∀ (g0 : Nat → Int64) (a : Nat) (ha : a ≤ i) (H : Heap) (locs : List Loc) (ls : Array Slot), va_P (dC, dI) CL [(q_3, .inl (k_4, 25, .inr (.inl g0))), (q_5, .inl (k_6, 0, .inl (fun _ => 0))), (a0, .inr (8, [.ref q_1, .ref q_3, .ref q_5, .int 0, .int 0, .int 0, .int 0, .int 0, .long 0])), (q_1, .inl (k_2, 256, .inl f_14))] H → va_D A [(q_3, .inl (k_4, 25, .inr (.inl g0))), (q_5, .inl (k_6, 0, .inl (fun _ => 0))), (a0, .inr (8, [.ref q_1, .ref q_3, .ref q_5, .int 0, .int 0, .int 0, .int 0, .int 0, .long 0])), (q_1, .inl (k_2, 256, .inl f_14))] → va_S A s.heap H locs → lv_has ls 4 [(2, .int (nI i)), (1, .int (nI a)), (0, .ref a0)] → W p l e (headSpec (Cond.code yX8_init cX8_init 4 none :: TB) ({ frames := 6, cells := 3, slots := 281, locals := 344 })).room s m args below meth c H locs 3 281 Q (F0 m 90 ls []) := by
  intro n
  induction n with
  | zero =>
    intro i hi g0 a ha H locs ls hP hD hS hl
    have hi : i = 117 := by omega
    subst hi
    exact kk g0 a ha H locs ls hP hD hS hl
  | succ n ih =>
    intro i hi g0 a ha H locs ls hP hD hS hl
    have hlt : i < 117 := by omega
    refine lv_iload_n hx hb dX8_init_90 rfl (lv_at hl 0 rfl) ?_
    refine va_ldcS hx hb hown hC.p12 dX8_init_91 ?_
    have hPc := hP.sub (ws' := []) [] rfl
    have hDc := hD.sub (ws' := []) [] (by decide) rfl
    have hKc := hK.sub (tys' := []) [] rfl
    have hFc := va_free (wc := []) hD hS hA [] rfl
    refine va_calli (va_runV (As := []) (rest := [.int (nI i)]) ⟨hx, hb, hml, hown, hts⟩ (cJ_len l dC dI adK adV H.size 4 117 (by decide) rfl) (cwV 0 hts (tb_V mw_326 mw_327 mw_328 mw_108 mw_329) rfl rfl rfl (by decide +kernel) ⟨Nat.le_of_ble_eq_true rfl, Nat.le_of_ble_eq_true rfl⟩) ⟨XB, vk_recv hC.p15 (i := 4) (by decide) hS, XQ (av := [.ref (adK 4)]) hPc hKc hDc hC hS hFc⟩ rfl rfl hl.1 rfl (lv_room (Nat.le_of_ble_eq_true rfl)) dX8_init_93 ⟨Nat.le_of_ble_eq_true rfl, Nat.le_of_ble_eq_true rfl⟩) hS (fun q _ h => hFc q h) hFc (fun r_515 u_9 t H1 locs ht hvm hw hB hz1 hk1 hS => ?_)
    try dsimp only at hw
    obtain ⟨hP, hD⟩ := va_join (wr := [(q_3, .inl (k_4, 25, .inr (.inl g0))), (q_5, .inl (k_6, 0, .inl (fun _ => 0))), (a0, .inr (8, [.ref q_1, .ref q_3, .ref q_5, .int 0, .int 0, .int 0, .int 0, .int 0, .long 0])), (q_1, .inl (k_2, 256, .inl f_14))]) (w1 := []) hP hD [] [0, 1, 2, 3] rfl rfl (by decide) (by decide) hk1 hFc (fun k q h => by simp at h) ⟨fun i j p q h => by simp at h, fun k q h => by simp at h⟩
    have hK := hK.sub (tys' := [(k_4, .long), (k_6, .byte), (k_2, .int)]) [0, 1, 2] rfl
    generalize H1 = H at hP hS ⊢
    have hP : va_P (dC, dI) CL [(q_3, .inl (k_4, 25, .inr (.inl g0))), (q_5, .inl (k_6, 0, .inl (fun _ => 0))), (a0, .inr (8, [.ref q_1, .ref q_3, .ref q_5, .int 0, .int 0, .int 0, .int 0, .int 0, .long 0])), (q_1, .inl (k_2, 256, .inl f_14))] H := hP
    have hD : va_D A [(q_3, .inl (k_4, 25, .inr (.inl g0))), (q_5, .inl (k_6, 0, .inl (fun _ => 0))), (a0, .inr (8, [.ref q_1, .ref q_3, .ref q_5, .int 0, .int 0, .int 0, .int 0, .int 0, .long 0])), (q_1, .inl (k_2, 256, .inl f_14))] := hD
    have hK : va_K (dC, dI) CL [(k_4, .long), (k_6, .byte), (k_2, .int)] s := hK
    subst hw
    refine lv_icmp_ge (tgt := 148) hx hb dX8_init_96 (by decide) (fun h => absurd h (nI_ge (a := i) (b := 117) hlt (by decide))) (fun _ => ?_)
    refine va_ldcS hx hb hown hC.p12 dX8_init_99 ?_
    refine lv_iload_n hx hb dX8_init_101 rfl (lv_at hl 0 rfl) ?_
    have hPc := hP.sub (ws' := []) [] rfl
    have hDc := hD.sub (ws' := []) [] (by decide) rfl
    have hKc := hK.sub (tys' := []) [] rfl
    have hFc := va_free (wc := []) hD hS hA [] rfl
    refine va_calli (va_runV (As := [.int (nI i)]) (rest := []) ⟨hx, hb, hml, hown, hts⟩ (cJ_chr l dC dI adK adV H.size 4 i (by decide) hlt) (cwV 1 hts (tb_V mw_336 mw_337 mw_338 mw_108 mw_339) rfl rfl rfl (by decide +kernel) ⟨Nat.le_of_ble_eq_true rfl, Nat.le_of_ble_eq_true rfl⟩) ⟨XB, vk_recv hC.p15 (i := 4) (by decide) hS, XQ (av := [.ref (adK 4), .int (nI i)]) hPc hKc hDc hC hS hFc⟩ rfl rfl hl.1 rfl (lv_room (Nat.le_of_ble_eq_true rfl)) dX8_init_102 ⟨Nat.le_of_ble_eq_true rfl, Nat.le_of_ble_eq_true rfl⟩) hS (fun q _ h => hFc q h) hFc (fun r_516 u_9 t H1 locs ht hvm hw hB hz1 hk1 hS => ?_)
    try dsimp only at hw
    obtain ⟨hP, hD⟩ := va_join (wr := [(q_3, .inl (k_4, 25, .inr (.inl g0))), (q_5, .inl (k_6, 0, .inl (fun _ => 0))), (a0, .inr (8, [.ref q_1, .ref q_3, .ref q_5, .int 0, .int 0, .int 0, .int 0, .int 0, .long 0])), (q_1, .inl (k_2, 256, .inl f_14))]) (w1 := []) hP hD [] [0, 1, 2, 3] rfl rfl (by decide) (by decide) hk1 hFc (fun k q h => by simp at h) ⟨fun i j p q h => by simp at h, fun k q h => by simp at h⟩
    have hK := hK.sub (tys' := [(k_4, .long), (k_6, .byte), (k_2, .int)]) [0, 1, 2] rfl
    generalize H1 = H at hP hS ⊢
    have hP : va_P (dC, dI) CL [(q_3, .inl (k_4, 25, .inr (.inl g0))), (q_5, .inl (k_6, 0, .inl (fun _ => 0))), (a0, .inr (8, [.ref q_1, .ref q_3, .ref q_5, .int 0, .int 0, .int 0, .int 0, .int 0, .long 0])), (q_1, .inl (k_2, 256, .inl f_14))] H := hP
    have hD : va_D A [(q_3, .inl (k_4, 25, .inr (.inl g0))), (q_5, .inl (k_6, 0, .inl (fun _ => 0))), (a0, .inr (8, [.ref q_1, .ref q_3, .ref q_5, .int 0, .int 0, .int 0, .int 0, .int 0, .long 0])), (q_1, .inl (k_2, 256, .inl f_14))] := hD
    have hK : va_K (dC, dI) CL [(k_4, .long), (k_6, .byte), (k_2, .int)] s := hK
    refine lv_istore_n (lv' := [(3, .int r_516), (2, .int (nI i)), (1, .int (nI a)), (0, .ref a0)]) hx hb dX8_init_105 rfl hl (by decide) rfl (fun ls hl => ?_)
    refine lv_iload_n hx hb dX8_init_106 rfl (lv_at hl 0 rfl) ?_
    refine lv_bipush (v := 32) hx hb dX8_init_107 (by decide) ?_
    refine lv_icmp_ne (tgt := 118) hx hb dX8_init_109 (by decide) (fun c_517 => ?_) (fun c_517 => ?_)
    · refine lv_iload_n hx hb dX8_init_118 rfl (lv_at hl 2 rfl) ?_
      refine lv_bipush (v := 25) hx hb dX8_init_119 (by decide) ?_
      refine lv_icmp_ge (tgt := 142) hx hb dX8_init_121 (by decide) (fun c_518 => ?_) (fun c_518 => ?_)
      · refine lv_iinc (v := (nI (i + 1))) (lv' := [(2, .int (nI (i + 1))), (3, .int r_516), (1, .int (nI a)), (0, .ref a0)]) hx hb dX8_init_142 hl (k := 1) rfl (nI_1 _) (by decide) rfl (fun ls hl => ?_)
        refine lv_goto (tgt := 90) hx hb dX8_init_145 (by decide) ?_
        exact ih (i + 1) (by omega) g0 a (by omega) _ _ _ (hP.sub [0, 1, 2, 3] rfl) (hD.sub [0, 1, 2, 3] (by decide) rfl) hS (lv_sub hl [0, 2, 3] rfl)
      · have hn_c_518 := Nat.lt_of_not_le (fun q => c_518 (nI_le (a := 25) (b := a) q (by omega)))
        refine lv_aload_n hx hb dX8_init_124 rfl (lv_at hl 3 rfl) ?_
        refine va_get (D := (dC, dI)) (ci := 8) (v := .ref q_3) (C := RX8) (T := TX8) (N := 9) hx hb hts iwX8 hown hK hP 2 rfl rfl 1 (by decide) (hts _ mw_379) (fun _ h9 => h9) rfl dX8_init_125 ?_
        refine lv_iload_n hx hb dX8_init_128 rfl (lv_at hl 2 rfl) ?_
        refine lv_aload_n hx hb dX8_init_129 rfl (lv_at hl 3 rfl) ?_
        refine va_get (D := (dC, dI)) (ci := 8) (v := .ref q_3) (C := RX8) (T := TX8) (N := 9) hx hb hts iwX8 hown hK hP 2 rfl rfl 1 (by decide) (hts _ mw_379) (fun _ h9 => h9) rfl dX8_init_130 ?_
        refine lv_iload_n hx hb dX8_init_133 rfl (lv_at hl 2 rfl) ?_
        refine va_lald hx hb hK hP 0 0 rfl rfl (vp_in_nI (by omega) (by decide)) dX8_init_134 ?_
        refine lv_topl (fun v_519 ev_519 => ?_)
        refine lv_bipush (v := 8) hx hb dX8_init_135 (by decide) ?_
        refine lv_lshl hx hb dX8_init_137 rfl ?_
        refine lv_topl (fun v_520 ev_520 => ?_)
        refine lv_iload_n hx hb dX8_init_138 rfl (lv_at hl 0 rfl) ?_
        refine lv_i2l hx hb dX8_init_139 rfl ?_
        refine lv_topl (fun v_521 ev_521 => ?_)
        refine lv_lor hx hb dX8_init_140 ?_
        refine lv_topl (fun v_522 ev_522 => ?_)
        refine xh_last hx hb hK hP hD hS 0 0 rfl rfl (vp_in_nI (by omega) (by decide)) dX8_init_141 (fun f_523 H locs hP hD hS => ?_)
        have hP : va_P (dC, dI) CL [(q_3, .inl (k_4, 25, .inr (.inl f_523))), (q_5, .inl (k_6, 0, .inl (fun _ => 0))), (a0, .inr (8, [.ref q_1, .ref q_3, .ref q_5, .int 0, .int 0, .int 0, .int 0, .int 0, .long 0])), (q_1, .inl (k_2, 256, .inl f_14))] H := hP
        have hD : va_D A [(q_3, .inl (k_4, 25, .inr (.inl f_523))), (q_5, .inl (k_6, 0, .inl (fun _ => 0))), (a0, .inr (8, [.ref q_1, .ref q_3, .ref q_5, .int 0, .int 0, .int 0, .int 0, .int 0, .long 0])), (q_1, .inl (k_2, 256, .inl f_14))] := hD
        refine lv_iinc (v := (nI (i + 1))) (lv' := [(2, .int (nI (i + 1))), (3, .int r_516), (1, .int (nI a)), (0, .ref a0)]) hx hb dX8_init_142 hl (k := 1) rfl (nI_1 _) (by decide) rfl (fun ls hl => ?_)
        refine lv_goto (tgt := 90) hx hb dX8_init_145 (by decide) ?_
        exact ih (i + 1) (by omega) f_523 a (by omega) _ _ _ (hP.sub [0, 1, 2, 3] rfl) (hD.sub [0, 1, 2, 3] (by decide) rfl) hS (lv_sub hl [0, 2, 3] rfl)
    · refine lv_iinc (v := (nI (a + 1))) (lv' := [(1, .int (nI (a + 1))), (3, .int r_516), (2, .int (nI i)), (0, .ref a0)]) hx hb dX8_init_112 hl (k := 2) rfl (nI_1 _) (by decide) rfl (fun ls hl => ?_)
      refine lv_goto (tgt := 142) hx hb dX8_init_115 (by decide) ?_
      refine lv_iinc (v := (nI (i + 1))) (lv' := [(2, .int (nI (i + 1))), (1, .int (nI (a + 1))), (3, .int r_516), (0, .ref a0)]) hx hb dX8_init_142 hl (k := 2) rfl (nI_1 _) (by decide) rfl (fun ls hl => ?_)
      refine lv_goto (tgt := 90) hx hb dX8_init_145 (by decide) ?_
      exact ih (i + 1) (by omega) g0 (a + 1) (by omega) _ _ _ (hP.sub [0, 1, 2, 3] rfl) (hD.sub [0, 1, 2, 3] (by decide) rfl) hS (lv_sub hl [0, 1, 3] rfl)
set_option maxHeartbeats 4000000 in
set_option maxRecDepth 100000 in
theorem zX8_init (l : Launch) (dC : Nat → ClassId) (dI : Nat → Nat → Nat) (adK adV : Nat → Nat) (sz : Nat) (a0 : Nat) : Met l yX8_init (Cond.code yX8_init cX8_init 4 none :: TB) ({ frames := 6, cells := 3, slots := 281, locals := 344 }) (XP (dC, dI) adK adV [.ref a0] sz [(a0, .inr (8, [.null, .null, .null, .int 0, .int 0, .int 0, .int 0, .int 0, .long 0]))] []) (va_Qv (fun _ : Unit => True) (fun _ t => ∃ q_1 : Nat, ∃ q_3 : Nat, ∃ q_5 : Nat, va_P (dC, dI) CL [(a0, .inr (8, [.ref q_1, .ref q_3, .ref q_5, .int 0, .int 0, .int 0, .int 0, .int 0, .long 0]))] t.heap ∧ va_K (dC, dI) CL [] t ∧ va_D (va_A [(a0, .inr (8, [.null, .null, .null, .int 0, .int 0, .int 0, .int 0, .int 0, .long 0]))] sz) [(a0, .inr (8, [.ref q_1, .ref q_3, .ref q_5, .int 0, .int 0, .int 0, .int 0, .int 0, .long 0]))]) (va_A [(a0, .inr (8, [.null, .null, .null, .int 0, .int 0, .int 0, .int 0, .int 0, .long 0]))] sz)) 3 281 (va_A [(a0, .inr (8, [.null, .null, .null, .int 0, .int 0, .int 0, .int 0, .int 0, .long 0]))] sz) := by
  refine Met.ofW (cc := cX8_init) (maxL := 4) (ret := none) (by decide) rfl ?_
  intro p e s m args below meth c s₁ B hml hv
  obtain ⟨rfl, hsz, hP, hK, hD0, hC⟩ := hv
  have hx := B.exec
  have hb := B.bytes
  have hr := B.returns
  have hts0 := atoms_spec (ws := Cond.code yX8_init cX8_init 4 none :: TB) B.pre
  have hts : ∀ w ∈ TB, w.before _ s = true := fun w h => hts0 w (List.mem_cons_of_mem _ h)
  have hown : s.vm.findClass RX8 = some m.cls := findClass_of_methodNamed B.named
  have hlocks := B.notSynchronized
  have hin : meth.name = "<init>" := (name_of_methodNamed B.named B.method).1
  subst hsz
  have hD := hD0.self (sz := s.heap.size)
  generalize hAe : va_A [(a0, .inr (8, [.null, .null, .null, .int 0, .int 0, .int 0, .int 0, .int 0, .long 0]))] s.heap.size = A at hD hC ⊢
  have hA : ∀ q : Nat, s.heap.size ≤ q → A q := fun q h => by rw [← hAe]; exact Or.inr h
  have hl := lv_entry ([.ref a0]) (n := 4) (Nat.le_of_ble_eq_true rfl)
  rw [lg_entry_eq]
  generalize (lg_sl ([.ref a0]) ++ List.replicate (4 - (lg_sl ([.ref a0])).length) Slot.unset).toArray = ls at hl ⊢
  have hl : lv_has ls 4 [(0, .ref a0)] := hl
  have hP : va_P (dC, dI) CL [(a0, .inr (8, [.null, .null, .null, .int 0, .int 0, .int 0, .int 0, .int 0, .long 0]))] s.heap := hP
  obtain ⟨H, hH⟩ : ∃ z, z = s.heap := ⟨_, rfl⟩
  rw [← hH] at hP ⊢
  have hS : va_S A s.heap H [] := by rw [hH]; exact va_S.rf
  refine lv_aload_n hx hb dX8_init_0 rfl (lv_at hl 0 rfl) ?_
  refine W.objInit hx hb hown (hts _ mw_320) (hts _ mw_125) (hts _ mw_126) rfl (by rw [hml]; exact hl.1) rfl dX8_init_1 (Nat.le_of_ble_eq_true rfl) (Nat.le_of_ble_eq_true rfl) ?_
  refine W.eq (g2 := F0 m 4 ls []) rfl ?_
  refine lv_aload_n hx hb dX8_init_4 rfl (lv_at hl 0 rfl) ?_
  refine lv_sipush (v := 256) hx hb dX8_init_5 (by decide) ?_
  refine va_newa (atype := .int) (n := 256) (N' := 256) (ty := .int) (a0 := (256, .inl (fun _ => 0))) hx hb (hts _ mw_155) rfl hK hP hD hS hA (fun _ => rfl) (by decide) (by decide) (by decide) (Nat.le_of_ble_eq_true rfl) (Nat.le_of_ble_eq_true rfl) dX8_init_8 (fun q_1 k_2 H hK hP hD hS => ?_)
  have hK : va_K (dC, dI) CL [(k_2, .int)] s := hK
  have hP : va_P (dC, dI) CL [(a0, .inr (8, [.null, .null, .null, .int 0, .int 0, .int 0, .int 0, .int 0, .long 0])), (q_1, .inl (k_2, 256, .inl (fun _ => 0)))] H := hP
  have hD : va_D A [(a0, .inr (8, [.null, .null, .null, .int 0, .int 0, .int 0, .int 0, .int 0, .long 0])), (q_1, .inl (k_2, 256, .inl (fun _ => 0)))] := hD
  refine W.widen (k := 1) (n := 256) (Nat.le_of_ble_eq_true rfl) (Nat.le_of_ble_eq_true rfl) ?_
  refine va_putF (D := (dC, dI)) (ci := 8) (v := .ref q_1) (ty := .array .int) (C := RX8) (T := TX8) (N := 9) hx hb hts iwX8 tyX8 tyX8_ok nmX8 hown hK hP hD hS 0 rfl rfl 0 (by decide) (hts _ mw_378) (fun _ h9 => h9) rfl hin rfl (by decide +kernel) rfl rfl (Nat.le_of_ble_eq_true rfl) dX8_init_10 (fun H locs hP hD hS => ?_)
  have hP : va_P (dC, dI) CL [(a0, .inr (8, [.ref q_1, .null, .null, .int 0, .int 0, .int 0, .int 0, .int 0, .long 0])), (q_1, .inl (k_2, 256, .inl (fun _ => 0)))] H := hP
  have hD : va_D A [(a0, .inr (8, [.ref q_1, .null, .null, .int 0, .int 0, .int 0, .int 0, .int 0, .long 0])), (q_1, .inl (k_2, 256, .inl (fun _ => 0)))] := hD
  refine lv_aload_n hx hb dX8_init_13 rfl (lv_at hl 0 rfl) ?_
  refine lv_bipush (v := 25) hx hb dX8_init_14 (by decide) ?_
  refine va_newa (atype := .long) (n := 25) (N' := 25) (ty := .long) (a0 := (25, .inr (.inl (fun _ => 0)))) hx hb (hts _ mw_156) rfl hK hP hD hS hA (fun _ => rfl) (by decide) (by decide) (by decide) (Nat.le_of_ble_eq_true rfl) (Nat.le_of_ble_eq_true rfl) dX8_init_16 (fun q_3 k_4 H hK hP hD hS => ?_)
  have hK : va_K (dC, dI) CL [(k_2, .int), (k_4, .long)] s := hK
  have hP : va_P (dC, dI) CL [(a0, .inr (8, [.ref q_1, .null, .null, .int 0, .int 0, .int 0, .int 0, .int 0, .long 0])), (q_1, .inl (k_2, 256, .inl (fun _ => 0))), (q_3, .inl (k_4, 25, .inr (.inl (fun _ => 0))))] H := hP
  have hD : va_D A [(a0, .inr (8, [.ref q_1, .null, .null, .int 0, .int 0, .int 0, .int 0, .int 0, .long 0])), (q_1, .inl (k_2, 256, .inl (fun _ => 0))), (q_3, .inl (k_4, 25, .inr (.inl (fun _ => 0))))] := hD
  refine W.widen (k := 2) (n := 281) (Nat.le_of_ble_eq_true rfl) (Nat.le_of_ble_eq_true rfl) ?_
  refine va_putF (D := (dC, dI)) (ci := 8) (v := .ref q_3) (ty := .array .long) (C := RX8) (T := TX8) (N := 9) hx hb hts iwX8 tyX8 tyX8_ok nmX8 hown hK hP hD hS 0 rfl rfl 1 (by decide) (hts _ mw_379) (fun _ h9 => h9) rfl hin rfl (by decide +kernel) rfl rfl (Nat.le_of_ble_eq_true rfl) dX8_init_18 (fun H locs hP hD hS => ?_)
  have hP : va_P (dC, dI) CL [(a0, .inr (8, [.ref q_1, .ref q_3, .null, .int 0, .int 0, .int 0, .int 0, .int 0, .long 0])), (q_1, .inl (k_2, 256, .inl (fun _ => 0))), (q_3, .inl (k_4, 25, .inr (.inl (fun _ => 0))))] H := hP
  have hD : va_D A [(a0, .inr (8, [.ref q_1, .ref q_3, .null, .int 0, .int 0, .int 0, .int 0, .int 0, .long 0])), (q_1, .inl (k_2, 256, .inl (fun _ => 0))), (q_3, .inl (k_4, 25, .inr (.inl (fun _ => 0))))] := hD
  refine lv_aload_n hx hb dX8_init_21 rfl (lv_at hl 0 rfl) ?_
  refine lv_iconst (v := 0) hx hb dX8_init_22 (by decide) ?_
  refine va_newa (atype := .byte) (n := 0) (N' := 0) (ty := .byte) (a0 := (0, .inl (fun _ => 0))) hx hb (hts _ mw_154) rfl hK hP hD hS hA (fun _ => rfl) (by decide) (by decide) (by decide) (Nat.le_of_ble_eq_true rfl) (Nat.le_of_ble_eq_true rfl) dX8_init_23 (fun q_5 k_6 H hK hP hD hS => ?_)
  have hK : va_K (dC, dI) CL [(k_2, .int), (k_4, .long), (k_6, .byte)] s := hK
  have hP : va_P (dC, dI) CL [(a0, .inr (8, [.ref q_1, .ref q_3, .null, .int 0, .int 0, .int 0, .int 0, .int 0, .long 0])), (q_1, .inl (k_2, 256, .inl (fun _ => 0))), (q_3, .inl (k_4, 25, .inr (.inl (fun _ => 0)))), (q_5, .inl (k_6, 0, .inl (fun _ => 0)))] H := hP
  have hD : va_D A [(a0, .inr (8, [.ref q_1, .ref q_3, .null, .int 0, .int 0, .int 0, .int 0, .int 0, .long 0])), (q_1, .inl (k_2, 256, .inl (fun _ => 0))), (q_3, .inl (k_4, 25, .inr (.inl (fun _ => 0)))), (q_5, .inl (k_6, 0, .inl (fun _ => 0)))] := hD
  refine W.widen (k := 3) (n := 281) (Nat.le_of_ble_eq_true rfl) (Nat.le_of_ble_eq_true rfl) ?_
  refine va_put (D := (dC, dI)) (ci := 8) (v := .ref q_5) (ty := .array .byte) (C := RX8) (T := TX8) (N := 9) hx hb hts iwX8 tyX8 tyX8_ok nmX8 hown hK hP hD hS 0 rfl rfl 2 (by decide) (hts _ mw_380) (fun _ h9 => h9) rfl (by decide +kernel) rfl rfl (Nat.le_of_ble_eq_true rfl) dX8_init_25 (fun H locs hP hD hS => ?_)
  have hP : va_P (dC, dI) CL [(a0, .inr (8, [.ref q_1, .ref q_3, .ref q_5, .int 0, .int 0, .int 0, .int 0, .int 0, .long 0])), (q_1, .inl (k_2, 256, .inl (fun _ => 0))), (q_3, .inl (k_4, 25, .inr (.inl (fun _ => 0)))), (q_5, .inl (k_6, 0, .inl (fun _ => 0)))] H := hP
  have hD : va_D A [(a0, .inr (8, [.ref q_1, .ref q_3, .ref q_5, .int 0, .int 0, .int 0, .int 0, .int 0, .long 0])), (q_1, .inl (k_2, 256, .inl (fun _ => 0))), (q_3, .inl (k_4, 25, .inr (.inl (fun _ => 0)))), (q_5, .inl (k_6, 0, .inl (fun _ => 0)))] := hD
  refine lv_aload_n hx hb dX8_init_28 rfl (lv_at hl 0 rfl) ?_
  refine lv_iconst (v := 0) hx hb dX8_init_29 (by decide) ?_
  refine va_put (D := (dC, dI)) (ci := 8) (v := .int 0) (ty := .int) (C := RX8) (T := TX8) (N := 9) hx hb hts iwX8 tyX8 tyX8_ok nmX8 hown hK hP hD hS 0 rfl rfl 3 (by decide) (hts _ mw_381) (fun _ h9 => h9) rfl (by decide +kernel) rfl rfl (Nat.le_of_ble_eq_true rfl) dX8_init_30 (fun H locs hP hD hS => ?_)
  have hP : va_P (dC, dI) CL [(a0, .inr (8, [.ref q_1, .ref q_3, .ref q_5, .int 0, .int 0, .int 0, .int 0, .int 0, .long 0])), (q_1, .inl (k_2, 256, .inl (fun _ => 0))), (q_3, .inl (k_4, 25, .inr (.inl (fun _ => 0)))), (q_5, .inl (k_6, 0, .inl (fun _ => 0)))] H := hP
  have hD : va_D A [(a0, .inr (8, [.ref q_1, .ref q_3, .ref q_5, .int 0, .int 0, .int 0, .int 0, .int 0, .long 0])), (q_1, .inl (k_2, 256, .inl (fun _ => 0))), (q_3, .inl (k_4, 25, .inr (.inl (fun _ => 0)))), (q_5, .inl (k_6, 0, .inl (fun _ => 0)))] := hD
  refine lv_aload_n hx hb dX8_init_33 rfl (lv_at hl 0 rfl) ?_
  refine lv_iconst (v := 0) hx hb dX8_init_34 (by decide) ?_
  refine va_put (D := (dC, dI)) (ci := 8) (v := .int 0) (ty := .int) (C := RX8) (T := TX8) (N := 9) hx hb hts iwX8 tyX8 tyX8_ok nmX8 hown hK hP hD hS 0 rfl rfl 4 (by decide) (hts _ mw_382) (fun _ h9 => h9) rfl (by decide +kernel) rfl rfl (Nat.le_of_ble_eq_true rfl) dX8_init_35 (fun H locs hP hD hS => ?_)
  have hP : va_P (dC, dI) CL [(a0, .inr (8, [.ref q_1, .ref q_3, .ref q_5, .int 0, .int 0, .int 0, .int 0, .int 0, .long 0])), (q_1, .inl (k_2, 256, .inl (fun _ => 0))), (q_3, .inl (k_4, 25, .inr (.inl (fun _ => 0)))), (q_5, .inl (k_6, 0, .inl (fun _ => 0)))] H := hP
  have hD : va_D A [(a0, .inr (8, [.ref q_1, .ref q_3, .ref q_5, .int 0, .int 0, .int 0, .int 0, .int 0, .long 0])), (q_1, .inl (k_2, 256, .inl (fun _ => 0))), (q_3, .inl (k_4, 25, .inr (.inl (fun _ => 0)))), (q_5, .inl (k_6, 0, .inl (fun _ => 0)))] := hD
  refine lv_aload_n hx hb dX8_init_38 rfl (lv_at hl 0 rfl) ?_
  refine lv_iconst (v := 0) hx hb dX8_init_39 (by decide) ?_
  refine va_put (D := (dC, dI)) (ci := 8) (v := .int 0) (ty := .int) (C := RX8) (T := TX8) (N := 9) hx hb hts iwX8 tyX8 tyX8_ok nmX8 hown hK hP hD hS 0 rfl rfl 5 (by decide) (hts _ mw_383) (fun _ h9 => h9) rfl (by decide +kernel) rfl rfl (Nat.le_of_ble_eq_true rfl) dX8_init_40 (fun H locs hP hD hS => ?_)
  have hP : va_P (dC, dI) CL [(a0, .inr (8, [.ref q_1, .ref q_3, .ref q_5, .int 0, .int 0, .int 0, .int 0, .int 0, .long 0])), (q_1, .inl (k_2, 256, .inl (fun _ => 0))), (q_3, .inl (k_4, 25, .inr (.inl (fun _ => 0)))), (q_5, .inl (k_6, 0, .inl (fun _ => 0)))] H := hP
  have hD : va_D A [(a0, .inr (8, [.ref q_1, .ref q_3, .ref q_5, .int 0, .int 0, .int 0, .int 0, .int 0, .long 0])), (q_1, .inl (k_2, 256, .inl (fun _ => 0))), (q_3, .inl (k_4, 25, .inr (.inl (fun _ => 0)))), (q_5, .inl (k_6, 0, .inl (fun _ => 0)))] := hD
  refine lv_aload_n hx hb dX8_init_43 rfl (lv_at hl 0 rfl) ?_
  refine lv_iconst (v := 0) hx hb dX8_init_44 (by decide) ?_
  refine va_put (D := (dC, dI)) (ci := 8) (v := .int 0) (ty := .int) (C := RX8) (T := TX8) (N := 9) hx hb hts iwX8 tyX8 tyX8_ok nmX8 hown hK hP hD hS 0 rfl rfl 6 (by decide) (hts _ mw_385) (fun _ h9 => h9) rfl (by decide +kernel) rfl rfl (Nat.le_of_ble_eq_true rfl) dX8_init_45 (fun H locs hP hD hS => ?_)
  have hP : va_P (dC, dI) CL [(a0, .inr (8, [.ref q_1, .ref q_3, .ref q_5, .int 0, .int 0, .int 0, .int 0, .int 0, .long 0])), (q_1, .inl (k_2, 256, .inl (fun _ => 0))), (q_3, .inl (k_4, 25, .inr (.inl (fun _ => 0)))), (q_5, .inl (k_6, 0, .inl (fun _ => 0)))] H := hP
  have hD : va_D A [(a0, .inr (8, [.ref q_1, .ref q_3, .ref q_5, .int 0, .int 0, .int 0, .int 0, .int 0, .long 0])), (q_1, .inl (k_2, 256, .inl (fun _ => 0))), (q_3, .inl (k_4, 25, .inr (.inl (fun _ => 0)))), (q_5, .inl (k_6, 0, .inl (fun _ => 0)))] := hD
  refine lv_aload_n hx hb dX8_init_48 rfl (lv_at hl 0 rfl) ?_
  refine lv_iconst (v := 0) hx hb dX8_init_49 (by decide) ?_
  refine va_put (D := (dC, dI)) (ci := 8) (v := .int 0) (ty := .int) (C := RX8) (T := TX8) (N := 9) hx hb hts iwX8 tyX8 tyX8_ok nmX8 hown hK hP hD hS 0 rfl rfl 7 (by decide) (hts _ mw_387) (fun _ h9 => h9) rfl (by decide +kernel) rfl rfl (Nat.le_of_ble_eq_true rfl) dX8_init_50 (fun H locs hP hD hS => ?_)
  have hP : va_P (dC, dI) CL [(a0, .inr (8, [.ref q_1, .ref q_3, .ref q_5, .int 0, .int 0, .int 0, .int 0, .int 0, .long 0])), (q_1, .inl (k_2, 256, .inl (fun _ => 0))), (q_3, .inl (k_4, 25, .inr (.inl (fun _ => 0)))), (q_5, .inl (k_6, 0, .inl (fun _ => 0)))] H := hP
  have hD : va_D A [(a0, .inr (8, [.ref q_1, .ref q_3, .ref q_5, .int 0, .int 0, .int 0, .int 0, .int 0, .long 0])), (q_1, .inl (k_2, 256, .inl (fun _ => 0))), (q_3, .inl (k_4, 25, .inr (.inl (fun _ => 0)))), (q_5, .inl (k_6, 0, .inl (fun _ => 0)))] := hD
  refine lv_aload_n hx hb dX8_init_53 rfl (lv_at hl 0 rfl) ?_
  refine lv_lconst (v := 0) hx hb dX8_init_54 (by decide) ?_
  refine va_put (D := (dC, dI)) (ci := 8) (v := .long 0) (ty := .long) (C := RX8) (T := TX8) (N := 9) hx hb hts iwX8 tyX8 tyX8_ok nmX8 hown hK hP hD hS 0 rfl rfl 8 (by decide) (hts _ mw_389) (fun _ h9 => h9) rfl (by decide +kernel) rfl rfl (Nat.le_of_ble_eq_true rfl) dX8_init_55 (fun H locs hP hD hS => ?_)
  have hP : va_P (dC, dI) CL [(a0, .inr (8, [.ref q_1, .ref q_3, .ref q_5, .int 0, .int 0, .int 0, .int 0, .int 0, .long 0])), (q_1, .inl (k_2, 256, .inl (fun _ => 0))), (q_3, .inl (k_4, 25, .inr (.inl (fun _ => 0)))), (q_5, .inl (k_6, 0, .inl (fun _ => 0)))] H := hP
  have hD : va_D A [(a0, .inr (8, [.ref q_1, .ref q_3, .ref q_5, .int 0, .int 0, .int 0, .int 0, .int 0, .long 0])), (q_1, .inl (k_2, 256, .inl (fun _ => 0))), (q_3, .inl (k_4, 25, .inr (.inl (fun _ => 0)))), (q_5, .inl (k_6, 0, .inl (fun _ => 0)))] := hD
  refine lv_aload_n hx hb dX8_init_58 rfl (lv_at hl 0 rfl) ?_
  refine va_ldcS hx hb hown hC.p8 dX8_init_59 ?_
  refine lv_iconst (v := 1) hx hb dX8_init_61 (by decide) ?_
  have hPc := hP.sub (ws' := [(a0, .inr (8, [.ref q_1, .ref q_3, .ref q_5, .int 0, .int 0, .int 0, .int 0, .int 0, .long 0])), (q_1, .inl (k_2, 256, .inl (fun _ => 0)))]) [0, 1] rfl
  have hDc := hD.sub (ws' := [(a0, .inr (8, [.ref q_1, .ref q_3, .ref q_5, .int 0, .int 0, .int 0, .int 0, .int 0, .long 0])), (q_1, .inl (k_2, 256, .inl (fun _ => 0)))]) [0, 1] (by decide) rfl
  have hKc := hK.sub (tys' := [(k_2, .int)]) [0] rfl
  have hFc := va_free (wc := [(a0, .inr (8, [.ref q_1, .ref q_3, .ref q_5, .int 0, .int 0, .int 0, .int 0, .int 0, .long 0])), (q_1, .inl (k_2, 256, .inl (fun _ => 0)))]) hD hS hA [0, 1] rfl
  refine va_callv (va_runV (As := [.ref (adK 0), .int 1]) (rest := []) ⟨hx, hb, hml, hown, hts⟩ (zX8_sortBytes l dC dI adK adV H.size a0 q_1 q_3 q_5 k_2 ((fun _ => 0))) (cwV 2 hts (tb_V mw_322 mw_324 mw_0 mw_107 mw_325) rfl rfl rfl (by decide +kernel) ⟨Nat.le_of_ble_eq_true rfl, Nat.le_of_ble_eq_true rfl⟩) ⟨XB, va_recv hKc hPc (ci := 8) (q0 := 0) rfl rfl, XQ (av := [.ref a0, .ref (adK 0), .int 1]) hPc hKc hDc hC hS hFc⟩ rfl rfl hl.1 rfl (lv_room (Nat.le_of_ble_eq_true rfl)) dX8_init_62 ⟨Nat.le_of_ble_eq_true rfl, Nat.le_of_ble_eq_true rfl⟩) hS (fun q _ h => hFc q h) hFc (fun u_9 t H1 locs ht hvm hw hB hz1 hk1 hS => ?_)
  try dsimp only at hw
  obtain ⟨f_8, hP1, hK1, hD1⟩ := hB
  rw [ht] at hP1
  have hK1 := va_K.moved hvm.symm hK1
  obtain ⟨hP, hD⟩ := va_join (wr := [(q_3, .inl (k_4, 25, .inr (.inl (fun _ => 0)))), (q_5, .inl (k_6, 0, .inl (fun _ => 0)))]) (w1 := [(a0, .inr (8, [.ref q_1, .ref q_3, .ref q_5, .int 0, .int 0, .int 0, .int 0, .int 0, .long 0])), (q_1, .inl (k_2, 256, .inl f_8))]) hP hD [0, 1] [2, 3] rfl rfl (by decide) (by decide) hk1 hFc hP1 hD1
  have hK := (hK.sub (tys' := [(k_4, .long), (k_6, .byte)]) [1, 2] rfl).app hK1
  generalize H1 = H at hP hS ⊢
  have hP : va_P (dC, dI) CL [(q_3, .inl (k_4, 25, .inr (.inl (fun _ => 0)))), (q_5, .inl (k_6, 0, .inl (fun _ => 0))), (a0, .inr (8, [.ref q_1, .ref q_3, .ref q_5, .int 0, .int 0, .int 0, .int 0, .int 0, .long 0])), (q_1, .inl (k_2, 256, .inl f_8))] H := hP
  have hD : va_D A [(q_3, .inl (k_4, 25, .inr (.inl (fun _ => 0)))), (q_5, .inl (k_6, 0, .inl (fun _ => 0))), (a0, .inr (8, [.ref q_1, .ref q_3, .ref q_5, .int 0, .int 0, .int 0, .int 0, .int 0, .long 0])), (q_1, .inl (k_2, 256, .inl f_8))] := hD
  have hK : va_K (dC, dI) CL [(k_4, .long), (k_6, .byte), (k_2, .int)] s := hK
  refine lv_aload_n hx hb dX8_init_65 rfl (lv_at hl 0 rfl) ?_
  refine va_ldcS hx hb hown hC.p9 dX8_init_66 ?_
  refine lv_iconst (v := 2) hx hb dX8_init_68 (by decide) ?_
  have hPc := hP.sub (ws' := [(a0, .inr (8, [.ref q_1, .ref q_3, .ref q_5, .int 0, .int 0, .int 0, .int 0, .int 0, .long 0])), (q_1, .inl (k_2, 256, .inl f_8))]) [2, 3] rfl
  have hDc := hD.sub (ws' := [(a0, .inr (8, [.ref q_1, .ref q_3, .ref q_5, .int 0, .int 0, .int 0, .int 0, .int 0, .long 0])), (q_1, .inl (k_2, 256, .inl f_8))]) [2, 3] (by decide) rfl
  have hKc := hK.sub (tys' := [(k_2, .int)]) [2] rfl
  have hFc := va_free (wc := [(a0, .inr (8, [.ref q_1, .ref q_3, .ref q_5, .int 0, .int 0, .int 0, .int 0, .int 0, .long 0])), (q_1, .inl (k_2, 256, .inl f_8))]) hD hS hA [2, 3] rfl
  refine va_callv (va_runV (As := [.ref (adK 1), .int 2]) (rest := []) ⟨hx, hb, hml, hown, hts⟩ (zX8_sortBytes_2 l dC dI adK adV H.size a0 q_1 q_3 q_5 k_2 f_8) (cwV 2 hts (tb_V mw_322 mw_324 mw_0 mw_107 mw_325) rfl rfl rfl (by decide +kernel) ⟨Nat.le_of_ble_eq_true rfl, Nat.le_of_ble_eq_true rfl⟩) ⟨XB, va_recv hKc hPc (ci := 8) (q0 := 0) rfl rfl, XQ (av := [.ref a0, .ref (adK 1), .int 2]) hPc hKc hDc hC hS hFc⟩ rfl rfl hl.1 rfl (lv_room (Nat.le_of_ble_eq_true rfl)) dX8_init_69 ⟨Nat.le_of_ble_eq_true rfl, Nat.le_of_ble_eq_true rfl⟩) hS (fun q _ h => hFc q h) hFc (fun u_9 t H1 locs ht hvm hw hB hz1 hk1 hS => ?_)
  try dsimp only at hw
  obtain ⟨f_10, hP1, hK1, hD1⟩ := hB
  rw [ht] at hP1
  have hK1 := va_K.moved hvm.symm hK1
  obtain ⟨hP, hD⟩ := va_join (wr := [(q_3, .inl (k_4, 25, .inr (.inl (fun _ => 0)))), (q_5, .inl (k_6, 0, .inl (fun _ => 0)))]) (w1 := [(a0, .inr (8, [.ref q_1, .ref q_3, .ref q_5, .int 0, .int 0, .int 0, .int 0, .int 0, .long 0])), (q_1, .inl (k_2, 256, .inl f_10))]) hP hD [2, 3] [0, 1] rfl rfl (by decide) (by decide) hk1 hFc hP1 hD1
  have hK := (hK.sub (tys' := [(k_4, .long), (k_6, .byte)]) [0, 1] rfl).app hK1
  generalize H1 = H at hP hS ⊢
  have hP : va_P (dC, dI) CL [(q_3, .inl (k_4, 25, .inr (.inl (fun _ => 0)))), (q_5, .inl (k_6, 0, .inl (fun _ => 0))), (a0, .inr (8, [.ref q_1, .ref q_3, .ref q_5, .int 0, .int 0, .int 0, .int 0, .int 0, .long 0])), (q_1, .inl (k_2, 256, .inl f_10))] H := hP
  have hD : va_D A [(q_3, .inl (k_4, 25, .inr (.inl (fun _ => 0)))), (q_5, .inl (k_6, 0, .inl (fun _ => 0))), (a0, .inr (8, [.ref q_1, .ref q_3, .ref q_5, .int 0, .int 0, .int 0, .int 0, .int 0, .long 0])), (q_1, .inl (k_2, 256, .inl f_10))] := hD
  have hK : va_K (dC, dI) CL [(k_4, .long), (k_6, .byte), (k_2, .int)] s := hK
  refine lv_aload_n hx hb dX8_init_72 rfl (lv_at hl 0 rfl) ?_
  refine va_ldcS hx hb hown hC.p10 dX8_init_73 ?_
  refine lv_iconst (v := 3) hx hb dX8_init_75 (by decide) ?_
  have hPc := hP.sub (ws' := [(a0, .inr (8, [.ref q_1, .ref q_3, .ref q_5, .int 0, .int 0, .int 0, .int 0, .int 0, .long 0])), (q_1, .inl (k_2, 256, .inl f_10))]) [2, 3] rfl
  have hDc := hD.sub (ws' := [(a0, .inr (8, [.ref q_1, .ref q_3, .ref q_5, .int 0, .int 0, .int 0, .int 0, .int 0, .long 0])), (q_1, .inl (k_2, 256, .inl f_10))]) [2, 3] (by decide) rfl
  have hKc := hK.sub (tys' := [(k_2, .int)]) [2] rfl
  have hFc := va_free (wc := [(a0, .inr (8, [.ref q_1, .ref q_3, .ref q_5, .int 0, .int 0, .int 0, .int 0, .int 0, .long 0])), (q_1, .inl (k_2, 256, .inl f_10))]) hD hS hA [2, 3] rfl
  refine va_callv (va_runV (As := [.ref (adK 2), .int 3]) (rest := []) ⟨hx, hb, hml, hown, hts⟩ (zX8_sortBytes_3 l dC dI adK adV H.size a0 q_1 q_3 q_5 k_2 f_10) (cwV 2 hts (tb_V mw_322 mw_324 mw_0 mw_107 mw_325) rfl rfl rfl (by decide +kernel) ⟨Nat.le_of_ble_eq_true rfl, Nat.le_of_ble_eq_true rfl⟩) ⟨XB, va_recv hKc hPc (ci := 8) (q0 := 0) rfl rfl, XQ (av := [.ref a0, .ref (adK 2), .int 3]) hPc hKc hDc hC hS hFc⟩ rfl rfl hl.1 rfl (lv_room (Nat.le_of_ble_eq_true rfl)) dX8_init_76 ⟨Nat.le_of_ble_eq_true rfl, Nat.le_of_ble_eq_true rfl⟩) hS (fun q _ h => hFc q h) hFc (fun u_9 t H1 locs ht hvm hw hB hz1 hk1 hS => ?_)
  try dsimp only at hw
  obtain ⟨f_12, hP1, hK1, hD1⟩ := hB
  rw [ht] at hP1
  have hK1 := va_K.moved hvm.symm hK1
  obtain ⟨hP, hD⟩ := va_join (wr := [(q_3, .inl (k_4, 25, .inr (.inl (fun _ => 0)))), (q_5, .inl (k_6, 0, .inl (fun _ => 0)))]) (w1 := [(a0, .inr (8, [.ref q_1, .ref q_3, .ref q_5, .int 0, .int 0, .int 0, .int 0, .int 0, .long 0])), (q_1, .inl (k_2, 256, .inl f_12))]) hP hD [2, 3] [0, 1] rfl rfl (by decide) (by decide) hk1 hFc hP1 hD1
  have hK := (hK.sub (tys' := [(k_4, .long), (k_6, .byte)]) [0, 1] rfl).app hK1
  generalize H1 = H at hP hS ⊢
  have hP : va_P (dC, dI) CL [(q_3, .inl (k_4, 25, .inr (.inl (fun _ => 0)))), (q_5, .inl (k_6, 0, .inl (fun _ => 0))), (a0, .inr (8, [.ref q_1, .ref q_3, .ref q_5, .int 0, .int 0, .int 0, .int 0, .int 0, .long 0])), (q_1, .inl (k_2, 256, .inl f_12))] H := hP
  have hD : va_D A [(q_3, .inl (k_4, 25, .inr (.inl (fun _ => 0)))), (q_5, .inl (k_6, 0, .inl (fun _ => 0))), (a0, .inr (8, [.ref q_1, .ref q_3, .ref q_5, .int 0, .int 0, .int 0, .int 0, .int 0, .long 0])), (q_1, .inl (k_2, 256, .inl f_12))] := hD
  have hK : va_K (dC, dI) CL [(k_4, .long), (k_6, .byte), (k_2, .int)] s := hK
  refine lv_aload_n hx hb dX8_init_79 rfl (lv_at hl 0 rfl) ?_
  refine va_ldcS hx hb hown hC.p11 dX8_init_80 ?_
  refine lv_iconst (v := 4) hx hb dX8_init_82 (by decide) ?_
  have hPc := hP.sub (ws' := [(a0, .inr (8, [.ref q_1, .ref q_3, .ref q_5, .int 0, .int 0, .int 0, .int 0, .int 0, .long 0])), (q_1, .inl (k_2, 256, .inl f_12))]) [2, 3] rfl
  have hDc := hD.sub (ws' := [(a0, .inr (8, [.ref q_1, .ref q_3, .ref q_5, .int 0, .int 0, .int 0, .int 0, .int 0, .long 0])), (q_1, .inl (k_2, 256, .inl f_12))]) [2, 3] (by decide) rfl
  have hKc := hK.sub (tys' := [(k_2, .int)]) [2] rfl
  have hFc := va_free (wc := [(a0, .inr (8, [.ref q_1, .ref q_3, .ref q_5, .int 0, .int 0, .int 0, .int 0, .int 0, .long 0])), (q_1, .inl (k_2, 256, .inl f_12))]) hD hS hA [2, 3] rfl
  refine va_callv (va_runV (As := [.ref (adK 3), .int 4]) (rest := []) ⟨hx, hb, hml, hown, hts⟩ (zX8_sortBytes_4 l dC dI adK adV H.size a0 q_1 q_3 q_5 k_2 f_12) (cwV 2 hts (tb_V mw_322 mw_324 mw_0 mw_107 mw_325) rfl rfl rfl (by decide +kernel) ⟨Nat.le_of_ble_eq_true rfl, Nat.le_of_ble_eq_true rfl⟩) ⟨XB, va_recv hKc hPc (ci := 8) (q0 := 0) rfl rfl, XQ (av := [.ref a0, .ref (adK 3), .int 4]) hPc hKc hDc hC hS hFc⟩ rfl rfl hl.1 rfl (lv_room (Nat.le_of_ble_eq_true rfl)) dX8_init_83 ⟨Nat.le_of_ble_eq_true rfl, Nat.le_of_ble_eq_true rfl⟩) hS (fun q _ h => hFc q h) hFc (fun u_9 t H1 locs ht hvm hw hB hz1 hk1 hS => ?_)
  try dsimp only at hw
  obtain ⟨f_14, hP1, hK1, hD1⟩ := hB
  rw [ht] at hP1
  have hK1 := va_K.moved hvm.symm hK1
  obtain ⟨hP, hD⟩ := va_join (wr := [(q_3, .inl (k_4, 25, .inr (.inl (fun _ => 0)))), (q_5, .inl (k_6, 0, .inl (fun _ => 0)))]) (w1 := [(a0, .inr (8, [.ref q_1, .ref q_3, .ref q_5, .int 0, .int 0, .int 0, .int 0, .int 0, .long 0])), (q_1, .inl (k_2, 256, .inl f_14))]) hP hD [2, 3] [0, 1] rfl rfl (by decide) (by decide) hk1 hFc hP1 hD1
  have hK := (hK.sub (tys' := [(k_4, .long), (k_6, .byte)]) [0, 1] rfl).app hK1
  generalize H1 = H at hP hS ⊢
  have hP : va_P (dC, dI) CL [(q_3, .inl (k_4, 25, .inr (.inl (fun _ => 0)))), (q_5, .inl (k_6, 0, .inl (fun _ => 0))), (a0, .inr (8, [.ref q_1, .ref q_3, .ref q_5, .int 0, .int 0, .int 0, .int 0, .int 0, .long 0])), (q_1, .inl (k_2, 256, .inl f_14))] H := hP
  have hD : va_D A [(q_3, .inl (k_4, 25, .inr (.inl (fun _ => 0)))), (q_5, .inl (k_6, 0, .inl (fun _ => 0))), (a0, .inr (8, [.ref q_1, .ref q_3, .ref q_5, .int 0, .int 0, .int 0, .int 0, .int 0, .long 0])), (q_1, .inl (k_2, 256, .inl f_14))] := hD
  have hK : va_K (dC, dI) CL [(k_4, .long), (k_6, .byte), (k_2, .int)] s := hK
  refine lv_iconst (v := 0) hx hb dX8_init_86 (by decide) ?_
  refine lv_istore_n (lv' := [(1, .int 0), (0, .ref a0)]) hx hb dX8_init_87 rfl hl (by decide) rfl (fun ls hl => ?_)
  refine lv_iconst (v := 0) hx hb dX8_init_88 (by decide) ?_
  refine lv_istore_n (lv' := [(2, .int 0), (1, .int 0), (0, .ref a0)]) hx hb dX8_init_89 rfl hl (by decide) rfl (fun ls hl => ?_)
  refine lpX8_init_90 hx hb hml hown hts hC hA hK (fun f_15 a_16 ha_16 H locs ls hP hD hS hl => ?_) 117 0 rfl (fun _ => 0) 0 (by omega) _ _ _ hP hD hS (lv_sub hl [0, 1, 2] rfl)
  have hP : va_P (dC, dI) CL [(q_3, .inl (k_4, 25, .inr (.inl f_15))), (q_5, .inl (k_6, 0, .inl (fun _ => 0))), (a0, .inr (8, [.ref q_1, .ref q_3, .ref q_5, .int 0, .int 0, .int 0, .int 0, .int 0, .long 0])), (q_1, .inl (k_2, 256, .inl f_14))] H := hP
  have hD : va_D A [(q_3, .inl (k_4, 25, .inr (.inl f_15))), (q_5, .inl (k_6, 0, .inl (fun _ => 0))), (a0, .inr (8, [.ref q_1, .ref q_3, .ref q_5, .int 0, .int 0, .int 0, .int 0, .int 0, .long 0])), (q_1, .inl (k_2, 256, .inl f_14))] := hD
  have hl : lv_has ls 4 [(2, .int 117), (1, .int (nI a_16)), (0, .ref a0)] := hl
  refine lv_iload_n hx hb dX8_init_90 rfl (lv_at hl 0 rfl) ?_
  refine va_ldcS hx hb hown hC.p12 dX8_init_91 ?_
  have hPc := hP.sub (ws' := []) [] rfl
  have hDc := hD.sub (ws' := []) [] (by decide) rfl
  have hKc := hK.sub (tys' := []) [] rfl
  have hFc := va_free (wc := []) hD hS hA [] rfl
  refine va_calli (va_runV (As := []) (rest := [.int 117]) ⟨hx, hb, hml, hown, hts⟩ (cJ_len l dC dI adK adV H.size 4 117 (by decide) rfl) (cwV 0 hts (tb_V mw_326 mw_327 mw_328 mw_108 mw_329) rfl rfl rfl (by decide +kernel) ⟨Nat.le_of_ble_eq_true rfl, Nat.le_of_ble_eq_true rfl⟩) ⟨XB, vk_recv hC.p15 (i := 4) (by decide) hS, XQ (av := [.ref (adK 4)]) hPc hKc hDc hC hS hFc⟩ rfl rfl hl.1 rfl (lv_room (Nat.le_of_ble_eq_true rfl)) dX8_init_93 ⟨Nat.le_of_ble_eq_true rfl, Nat.le_of_ble_eq_true rfl⟩) hS (fun q _ h => hFc q h) hFc (fun r_17 u_9 t H1 locs ht hvm hw hB hz1 hk1 hS => ?_)
  try dsimp only at hw
  obtain ⟨hP, hD⟩ := va_join (wr := [(q_3, .inl (k_4, 25, .inr (.inl f_15))), (q_5, .inl (k_6, 0, .inl (fun _ => 0))), (a0, .inr (8, [.ref q_1, .ref q_3, .ref q_5, .int 0, .int 0, .int 0, .int 0, .int 0, .long 0])), (q_1, .inl (k_2, 256, .inl f_14))]) (w1 := []) hP hD [] [0, 1, 2, 3] rfl rfl (by decide) (by decide) hk1 hFc (fun k q h => by simp at h) ⟨fun i j p q h => by simp at h, fun k q h => by simp at h⟩
  have hK := hK.sub (tys' := [(k_4, .long), (k_6, .byte), (k_2, .int)]) [0, 1, 2] rfl
  generalize H1 = H at hP hS ⊢
  have hP : va_P (dC, dI) CL [(q_3, .inl (k_4, 25, .inr (.inl f_15))), (q_5, .inl (k_6, 0, .inl (fun _ => 0))), (a0, .inr (8, [.ref q_1, .ref q_3, .ref q_5, .int 0, .int 0, .int 0, .int 0, .int 0, .long 0])), (q_1, .inl (k_2, 256, .inl f_14))] H := hP
  have hD : va_D A [(q_3, .inl (k_4, 25, .inr (.inl f_15))), (q_5, .inl (k_6, 0, .inl (fun _ => 0))), (a0, .inr (8, [.ref q_1, .ref q_3, .ref q_5, .int 0, .int 0, .int 0, .int 0, .int 0, .long 0])), (q_1, .inl (k_2, 256, .inl f_14))] := hD
  have hK : va_K (dC, dI) CL [(k_4, .long), (k_6, .byte), (k_2, .int)] s := hK
  subst hw
  refine lv_icmp_ge (tgt := 148) hx hb dX8_init_96 (by decide) (fun _ => ?_) (fun h => (h (by decide)).elim)
  refine W.widen (k := 3) (n := 281) (Nat.le_of_ble_eq_true rfl) (Nat.le_of_ble_eq_true rfl) ?_
  have hP9 := hP.sub (ws' := [(a0, .inr (8, [.ref q_1, .ref q_3, .ref q_5, .int 0, .int 0, .int 0, .int 0, .int 0, .long 0]))]) [2] rfl
  have hD9 := hD.sub (ws' := [(a0, .inr (8, [.ref q_1, .ref q_3, .ref q_5, .int 0, .int 0, .int 0, .int 0, .int 0, .long 0]))]) [2] (by decide) rfl
  have hK9 := hK.sub (tys' := []) [] rfl
  exact W.vret hx hb hr (fun t ht hW => ⟨⟨(), rfl, trivial, q_1, q_3, q_5, by rw [ht]; exact hP9, va_K.moved hW.alike hK9, hD9⟩, hS.F ht⟩) hS.2.2 dX8_init_148
set_option maxHeartbeats 4000000 in
set_option maxRecDepth 100000 in
theorem zX1_init (l : Launch) (dC : Nat → ClassId) (dI : Nat → Nat → Nat) (adK adV : Nat → Nat) (sz : Nat) (a0 : Nat) (a1 : Nat) : Met l yX1_init (Cond.code yX1_init cX1_init 2 none :: TB) ({ frames := 7, cells := 5, slots := 296, locals := 367 }) (XP (dC, dI) adK adV [.ref a0, .ref a1] sz [(a0, .inr (1, [.null, .null, .null, .int 0, .int 0]))] []) (va_Qv (fun _ : Unit => True) (fun _ t => ∃ q_1 : Nat, ∃ q_6 : Nat, ∃ q_3 : Nat, ∃ q_4 : Nat, ∃ q_5 : Nat, va_P (dC, dI) CL [(a0, .inr (1, [.ref q_1, .ref a1, .ref q_6, .int 0, .int (-1)])), (q_1, .inr (8, [.ref q_3, .ref q_4, .ref q_5, .int 0, .int 0, .int 0, .int 0, .int 0, .long 0])), (q_6, .inr (4, [.int 0, .int 0, .int 0, .int 0, .int 0, .int 0]))] t.heap ∧ va_K (dC, dI) CL [] t ∧ va_D (va_A [(a0, .inr (1, [.null, .null, .null, .int 0, .int 0]))] sz) [(a0, .inr (1, [.ref q_1, .ref a1, .ref q_6, .int 0, .int (-1)])), (q_1, .inr (8, [.ref q_3, .ref q_4, .ref q_5, .int 0, .int 0, .int 0, .int 0, .int 0, .long 0])), (q_6, .inr (4, [.int 0, .int 0, .int 0, .int 0, .int 0, .int 0]))]) (va_A [(a0, .inr (1, [.null, .null, .null, .int 0, .int 0]))] sz)) 5 296 (va_A [(a0, .inr (1, [.null, .null, .null, .int 0, .int 0]))] sz) := by
  refine Met.ofW (cc := cX1_init) (maxL := 2) (ret := none) (by decide) rfl ?_
  intro p e s m args below meth c s₁ B hml hv
  obtain ⟨rfl, hsz, hP, hK, hD0, hC⟩ := hv
  have hx := B.exec
  have hb := B.bytes
  have hr := B.returns
  have hts0 := atoms_spec (ws := Cond.code yX1_init cX1_init 2 none :: TB) B.pre
  have hts : ∀ w ∈ TB, w.before _ s = true := fun w h => hts0 w (List.mem_cons_of_mem _ h)
  have hown : s.vm.findClass RX1 = some m.cls := findClass_of_methodNamed B.named
  have hlocks := B.notSynchronized
  have hin : meth.name = "<init>" := (name_of_methodNamed B.named B.method).1
  subst hsz
  have hD := hD0.self (sz := s.heap.size)
  generalize hAe : va_A [(a0, .inr (1, [.null, .null, .null, .int 0, .int 0]))] s.heap.size = A at hD hC ⊢
  have hA : ∀ q : Nat, s.heap.size ≤ q → A q := fun q h => by rw [← hAe]; exact Or.inr h
  have hl := lv_entry ([.ref a0, .ref a1]) (n := 2) (Nat.le_of_ble_eq_true rfl)
  rw [lg_entry_eq]
  generalize (lg_sl ([.ref a0, .ref a1]) ++ List.replicate (2 - (lg_sl ([.ref a0, .ref a1])).length) Slot.unset).toArray = ls at hl ⊢
  have hl : lv_has ls 2 [(0, .ref a0), (1, .ref a1)] := hl
  have hP : va_P (dC, dI) CL [(a0, .inr (1, [.null, .null, .null, .int 0, .int 0]))] s.heap := hP
  obtain ⟨H, hH⟩ : ∃ z, z = s.heap := ⟨_, rfl⟩
  rw [← hH] at hP ⊢
  have hS : va_S A s.heap H [] := by rw [hH]; exact va_S.rf
  refine lv_aload_n hx hb dX1_init_0 rfl (lv_at hl 0 rfl) ?_
  refine W.objInit hx hb hown (hts _ mw_314) (hts _ mw_125) (hts _ mw_126) rfl (by rw [hml]; exact hl.1) rfl dX1_init_1 (Nat.le_of_ble_eq_true rfl) (Nat.le_of_ble_eq_true rfl) ?_
  refine W.eq (g2 := F0 m 4 ls []) rfl ?_
  refine lv_aload_n hx hb dX1_init_4 rfl (lv_at hl 0 rfl) ?_
  refine va_new (ci := 8) (fs := [.null, .null, .null, .int 0, .int 0, .int 0, .int 0, .int 0, .long 0]) (C := RX8) (T := TX8) (N := 9) hx hb hts iwX8 tyX8 tyX8_ok hown (hts _ mw_315) (hts _ mw_316) (hts _ mw_107) hK hP hD hS hA rfl (by decide +kernel) (Nat.le_of_ble_eq_true rfl) (Nat.le_of_ble_eq_true rfl) dX1_init_5 (fun q_1 H hP hD hS => ?_)
  have hP : va_P (dC, dI) CL [(a0, .inr (1, [.null, .null, .null, .int 0, .int 0])), (q_1, .inr (8, [.null, .null, .null, .int 0, .int 0, .int 0, .int 0, .int 0, .long 0]))] H := hP
  have hD : va_D A [(a0, .inr (1, [.null, .null, .null, .int 0, .int 0])), (q_1, .inr (8, [.null, .null, .null, .int 0, .int 0, .int 0, .int 0, .int 0, .long 0]))] := hD
  refine W.widen (k := 1) (n := 9) (Nat.le_of_ble_eq_true rfl) (Nat.le_of_ble_eq_true rfl) ?_
  refine lv_dup hx hb dX1_init_8 rfl ?_
  have hPc := hP.sub (ws' := [(q_1, .inr (8, [.null, .null, .null, .int 0, .int 0, .int 0, .int 0, .int 0, .long 0]))]) [1] rfl
  have hDc := hD.sub (ws' := [(q_1, .inr (8, [.null, .null, .null, .int 0, .int 0, .int 0, .int 0, .int 0, .long 0]))]) [1] (by decide) rfl
  have hKc := hK.sub (tys' := []) [] rfl
  have hFc := va_free (wc := [(q_1, .inr (8, [.null, .null, .null, .int 0, .int 0, .int 0, .int 0, .int 0, .long 0]))]) hD hS hA [1] rfl
  refine va_callv (va_runI (As := []) (rest := [.ref q_1, .ref a0]) ⟨hx, hb, hml, hown, hts⟩ (zX8_init l dC dI adK adV H.size q_1) (cwI 0 hts (tb_code mw_319) rfl rfl rfl (hts _ mw_107) (hts _ mw_317) (hts _ mw_318) rfl (by decide +kernel) ⟨Nat.le_of_ble_eq_true rfl, Nat.le_of_ble_eq_true rfl⟩) ⟨XB, XQ (av := [.ref q_1]) hPc hKc hDc hC hS hFc⟩ rfl rfl hl.1 rfl (lv_room (Nat.le_of_ble_eq_true rfl)) dX1_init_9 ⟨Nat.le_of_ble_eq_true rfl, Nat.le_of_ble_eq_true rfl⟩) hS (fun q _ h => hFc q h) hFc (fun u_9 t H1 locs ht hvm hw hB hz1 hk1 hS => ?_)
  try dsimp only at hw
  obtain ⟨q_3, q_4, q_5, hP1, hK1, hD1⟩ := hB
  rw [ht] at hP1
  have hK1 := va_K.moved hvm.symm hK1
  obtain ⟨hP, hD⟩ := va_join (wr := [(a0, .inr (1, [.null, .null, .null, .int 0, .int 0]))]) (w1 := [(q_1, .inr (8, [.ref q_3, .ref q_4, .ref q_5, .int 0, .int 0, .int 0, .int 0, .int 0, .long 0]))]) hP hD [1] [0] rfl rfl (by decide) (by decide) hk1 hFc hP1 hD1
  have hK := (hK.sub (tys' := []) [] rfl).app hK1
  generalize H1 = H at hP hS ⊢
  have hP : va_P (dC, dI) CL [(a0, .inr (1, [.null, .null, .null, .int 0, .int 0])), (q_1, .inr (8, [.ref q_3, .ref q_4, .ref q_5, .int 0, .int 0, .int 0, .int 0, .int 0, .long 0]))] H := hP
  have hD : va_D A [(a0, .inr (1, [.null, .null, .null, .int 0, .int 0])), (q_1, .inr (8, [.ref q_3, .ref q_4, .ref q_5, .int 0, .int 0, .int 0, .int 0, .int 0, .long 0]))] := hD
  have hK : va_K (dC, dI) CL [] s := hK
  refine W.widen (k := 4) (n := 290) (Nat.le_of_ble_eq_true rfl) (Nat.le_of_ble_eq_true rfl) ?_
  refine va_putF (D := (dC, dI)) (ci := 1) (v := .ref q_1) (ty := .object "HalfCourt$Tokens") (C := RX1) (T := TX1) (N := 5) hx hb hts iwX1 tyX1 tyX1_ok nmX1 hown hK hP hD hS 0 rfl rfl 0 (by decide) (hts _ mw_412) (fun _ h9 => h9) rfl hin rfl (by decide +kernel) rfl rfl (Nat.le_of_ble_eq_true rfl) dX1_init_12 (fun H locs hP hD hS => ?_)
  have hP : va_P (dC, dI) CL [(a0, .inr (1, [.ref q_1, .null, .null, .int 0, .int 0])), (q_1, .inr (8, [.ref q_3, .ref q_4, .ref q_5, .int 0, .int 0, .int 0, .int 0, .int 0, .long 0]))] H := hP
  have hD : va_D A [(a0, .inr (1, [.ref q_1, .null, .null, .int 0, .int 0])), (q_1, .inr (8, [.ref q_3, .ref q_4, .ref q_5, .int 0, .int 0, .int 0, .int 0, .int 0, .long 0]))] := hD
  refine lv_aload_n hx hb dX1_init_15 rfl (lv_at hl 0 rfl) ?_
  refine va_new (ci := 4) (fs := [.int 0, .int 0, .int 0, .int 0, .int 0, .int 0]) (C := RX4) (T := TX4) (N := 6) hx hb hts iwX4 tyX4 tyX4_ok hown (hts _ mw_410) (hts _ mw_181) (hts _ mw_104) hK hP hD hS hA rfl (by decide +kernel) (Nat.le_of_ble_eq_true rfl) (Nat.le_of_ble_eq_true rfl) dX1_init_16 (fun q_6 H hP hD hS => ?_)
  have hP : va_P (dC, dI) CL [(a0, .inr (1, [.ref q_1, .null, .null, .int 0, .int 0])), (q_1, .inr (8, [.ref q_3, .ref q_4, .ref q_5, .int 0, .int 0, .int 0, .int 0, .int 0, .long 0])), (q_6, .inr (4, [.int 0, .int 0, .int 0, .int 0, .int 0, .int 0]))] H := hP
  have hD : va_D A [(a0, .inr (1, [.ref q_1, .null, .null, .int 0, .int 0])), (q_1, .inr (8, [.ref q_3, .ref q_4, .ref q_5, .int 0, .int 0, .int 0, .int 0, .int 0, .long 0])), (q_6, .inr (4, [.int 0, .int 0, .int 0, .int 0, .int 0, .int 0]))] := hD
  refine W.widen (k := 5) (n := 296) (Nat.le_of_ble_eq_true rfl) (Nat.le_of_ble_eq_true rfl) ?_
  refine lv_dup hx hb dX1_init_19 rfl ?_
  have hPc := hP.sub (ws' := [(q_6, .inr (4, [.int 0, .int 0, .int 0, .int 0, .int 0, .int 0]))]) [2] rfl
  have hDc := hD.sub (ws' := [(q_6, .inr (4, [.int 0, .int 0, .int 0, .int 0, .int 0, .int 0]))]) [2] (by decide) rfl
  have hKc := hK.sub (tys' := []) [] rfl
  have hFc := va_free (wc := [(q_6, .inr (4, [.int 0, .int 0, .int 0, .int 0, .int 0, .int 0]))]) hD hS hA [2] rfl
  refine va_callv (va_runIN (As := []) (rest := [.ref q_6, .ref a0]) ⟨hx, hb, hml, hown, hts⟩ (zX4_init l dC dI adK adV H.size q_6) ⟨va_cnB 0 hts (tb_code mw_184) rfl rfl rfl hC.p2 (hts _ mw_104) (by decide +kernel) ⟨Nat.le_of_ble_eq_true rfl, Nat.le_of_ble_eq_true rfl⟩, rfl, hts _ mw_183⟩ ⟨XB, XQ (av := [.ref q_6]) hPc hKc hDc hC hS hFc⟩ rfl rfl hl.1 rfl (lv_room (Nat.le_of_ble_eq_true rfl)) dX1_init_20 ⟨Nat.le_of_ble_eq_true rfl, Nat.le_of_ble_eq_true rfl⟩) hS (fun q _ h => hFc q h) hFc (fun u_9 t H1 locs ht hvm hw hB hz1 hk1 hS => ?_)
  try dsimp only at hw
  obtain ⟨hP1, hK1, hD1⟩ := hB
  rw [ht] at hP1
  have hK1 := va_K.moved hvm.symm hK1
  obtain ⟨hP, hD⟩ := va_join (wr := [(a0, .inr (1, [.ref q_1, .null, .null, .int 0, .int 0])), (q_1, .inr (8, [.ref q_3, .ref q_4, .ref q_5, .int 0, .int 0, .int 0, .int 0, .int 0, .long 0]))]) (w1 := [(q_6, .inr (4, [.int 0, .int 0, .int 0, .int 0, .int 0, .int 0]))]) hP hD [2] [0, 1] rfl rfl (by decide) (by decide) hk1 hFc hP1 hD1
  have hK := (hK.sub (tys' := []) [] rfl).app hK1
  generalize H1 = H at hP hS ⊢
  have hP : va_P (dC, dI) CL [(a0, .inr (1, [.ref q_1, .null, .null, .int 0, .int 0])), (q_1, .inr (8, [.ref q_3, .ref q_4, .ref q_5, .int 0, .int 0, .int 0, .int 0, .int 0, .long 0])), (q_6, .inr (4, [.int 0, .int 0, .int 0, .int 0, .int 0, .int 0]))] H := hP
  have hD : va_D A [(a0, .inr (1, [.ref q_1, .null, .null, .int 0, .int 0])), (q_1, .inr (8, [.ref q_3, .ref q_4, .ref q_5, .int 0, .int 0, .int 0, .int 0, .int 0, .long 0])), (q_6, .inr (4, [.int 0, .int 0, .int 0, .int 0, .int 0, .int 0]))] := hD
  have hK : va_K (dC, dI) CL [] s := hK
  refine va_put (D := (dC, dI)) (ci := 1) (v := .ref q_6) (ty := .object "HalfCourt$Look") (C := RX1) (T := TX1) (N := 5) hx hb hts iwX1 tyX1 tyX1_ok nmX1 hown hK hP hD hS 0 rfl rfl 2 (by decide) (hts _ mw_414) (fun _ h9 => h9) rfl (by decide +kernel) rfl rfl (Nat.le_of_ble_eq_true rfl) dX1_init_23 (fun H locs hP hD hS => ?_)
  have hP : va_P (dC, dI) CL [(a0, .inr (1, [.ref q_1, .null, .ref q_6, .int 0, .int 0])), (q_1, .inr (8, [.ref q_3, .ref q_4, .ref q_5, .int 0, .int 0, .int 0, .int 0, .int 0, .long 0])), (q_6, .inr (4, [.int 0, .int 0, .int 0, .int 0, .int 0, .int 0]))] H := hP
  have hD : va_D A [(a0, .inr (1, [.ref q_1, .null, .ref q_6, .int 0, .int 0])), (q_1, .inr (8, [.ref q_3, .ref q_4, .ref q_5, .int 0, .int 0, .int 0, .int 0, .int 0, .long 0])), (q_6, .inr (4, [.int 0, .int 0, .int 0, .int 0, .int 0, .int 0]))] := hD
  refine lv_aload_n hx hb dX1_init_26 rfl (lv_at hl 0 rfl) ?_
  refine lv_iconst (v := 0) hx hb dX1_init_27 (by decide) ?_
  refine va_put (D := (dC, dI)) (ci := 1) (v := .int 0) (ty := .int) (C := RX1) (T := TX1) (N := 5) hx hb hts iwX1 tyX1 tyX1_ok nmX1 hown hK hP hD hS 0 rfl rfl 3 (by decide) (hts _ mw_415) (fun _ h9 => h9) rfl (by decide +kernel) rfl rfl (Nat.le_of_ble_eq_true rfl) dX1_init_28 (fun H locs hP hD hS => ?_)
  have hP : va_P (dC, dI) CL [(a0, .inr (1, [.ref q_1, .null, .ref q_6, .int 0, .int 0])), (q_1, .inr (8, [.ref q_3, .ref q_4, .ref q_5, .int 0, .int 0, .int 0, .int 0, .int 0, .long 0])), (q_6, .inr (4, [.int 0, .int 0, .int 0, .int 0, .int 0, .int 0]))] H := hP
  have hD : va_D A [(a0, .inr (1, [.ref q_1, .null, .ref q_6, .int 0, .int 0])), (q_1, .inr (8, [.ref q_3, .ref q_4, .ref q_5, .int 0, .int 0, .int 0, .int 0, .int 0, .long 0])), (q_6, .inr (4, [.int 0, .int 0, .int 0, .int 0, .int 0, .int 0]))] := hD
  refine lv_aload_n hx hb dX1_init_31 rfl (lv_at hl 0 rfl) ?_
  refine lv_iconst (v := (-1)) hx hb dX1_init_32 (by decide) ?_
  refine va_put (D := (dC, dI)) (ci := 1) (v := .int (-1)) (ty := .int) (C := RX1) (T := TX1) (N := 5) hx hb hts iwX1 tyX1 tyX1_ok nmX1 hown hK hP hD hS 0 rfl rfl 4 (by decide) (hts _ mw_417) (fun _ h9 => h9) rfl (by decide +kernel) rfl rfl (Nat.le_of_ble_eq_true rfl) dX1_init_33 (fun H locs hP hD hS => ?_)
  have hP : va_P (dC, dI) CL [(a0, .inr (1, [.ref q_1, .null, .ref q_6, .int 0, .int (-1)])), (q_1, .inr (8, [.ref q_3, .ref q_4, .ref q_5, .int 0, .int 0, .int 0, .int 0, .int 0, .long 0])), (q_6, .inr (4, [.int 0, .int 0, .int 0, .int 0, .int 0, .int 0]))] H := hP
  have hD : va_D A [(a0, .inr (1, [.ref q_1, .null, .ref q_6, .int 0, .int (-1)])), (q_1, .inr (8, [.ref q_3, .ref q_4, .ref q_5, .int 0, .int 0, .int 0, .int 0, .int 0, .long 0])), (q_6, .inr (4, [.int 0, .int 0, .int 0, .int 0, .int 0, .int 0]))] := hD
  refine lv_aload_n hx hb dX1_init_36 rfl (lv_at hl 0 rfl) ?_
  refine lv_aload_n hx hb dX1_init_37 rfl (lv_at hl 1 rfl) ?_
  refine va_put (D := (dC, dI)) (ci := 1) (v := .ref a1) (ty := .object "HalfCourt$CaseFile") (C := RX1) (T := TX1) (N := 5) hx hb hts iwX1 tyX1 tyX1_ok nmX1 hown hK hP hD hS 0 rfl rfl 1 (by decide) (hts _ mw_413) (fun _ h9 => h9) rfl (by decide +kernel) rfl rfl (Nat.le_of_ble_eq_true rfl) dX1_init_38 (fun H locs hP hD hS => ?_)
  have hP : va_P (dC, dI) CL [(a0, .inr (1, [.ref q_1, .ref a1, .ref q_6, .int 0, .int (-1)])), (q_1, .inr (8, [.ref q_3, .ref q_4, .ref q_5, .int 0, .int 0, .int 0, .int 0, .int 0, .long 0])), (q_6, .inr (4, [.int 0, .int 0, .int 0, .int 0, .int 0, .int 0]))] H := hP
  have hD : va_D A [(a0, .inr (1, [.ref q_1, .ref a1, .ref q_6, .int 0, .int (-1)])), (q_1, .inr (8, [.ref q_3, .ref q_4, .ref q_5, .int 0, .int 0, .int 0, .int 0, .int 0, .long 0])), (q_6, .inr (4, [.int 0, .int 0, .int 0, .int 0, .int 0, .int 0]))] := hD
  refine W.widen (k := 5) (n := 296) (Nat.le_of_ble_eq_true rfl) (Nat.le_of_ble_eq_true rfl) ?_
  have hP9 := hP.sub (ws' := [(a0, .inr (1, [.ref q_1, .ref a1, .ref q_6, .int 0, .int (-1)])), (q_1, .inr (8, [.ref q_3, .ref q_4, .ref q_5, .int 0, .int 0, .int 0, .int 0, .int 0, .long 0])), (q_6, .inr (4, [.int 0, .int 0, .int 0, .int 0, .int 0, .int 0]))]) [0, 1, 2] rfl
  have hD9 := hD.sub (ws' := [(a0, .inr (1, [.ref q_1, .ref a1, .ref q_6, .int 0, .int (-1)])), (q_1, .inr (8, [.ref q_3, .ref q_4, .ref q_5, .int 0, .int 0, .int 0, .int 0, .int 0, .long 0])), (q_6, .inr (4, [.int 0, .int 0, .int 0, .int 0, .int 0, .int 0]))]) [0, 1, 2] (by decide) rfl
  have hK9 := hK.sub (tys' := []) [] rfl
  exact W.vret hx hb hr (fun t ht hW => ⟨⟨(), rfl, trivial, q_1, q_6, q_3, q_4, q_5, by rw [ht]; exact hP9, va_K.moved hW.alike hK9, hD9⟩, hS.F ht⟩) hS.2.2 dX1_init_41
