set_option maxHeartbeats 4000000 in
set_option maxRecDepth 100000 in
theorem zX9_pairsOf (l : Launch) (dC : Nat → ClassId) (dI : Nat → Nat → Nat) (adK adV : Nat → Nat) (sz : Nat) : Met l yX9_pairsOf (Cond.code yX9_pairsOf cX9_pairsOf 4 (some .long) :: TB) ({ frames := 1, cells := 0, slots := 0, locals := 100 }) (XP (dC, dI) adK adV [.int 0] sz [] []) (va_Ql (fun (r : Int64) (_ : Unit) => r = 0) (fun _ t => va_P (dC, dI) CL [] t.heap ∧ va_K (dC, dI) CL [] t ∧ va_D (va_A [] sz) []) (va_A [] sz)) 0 0 (va_A [] sz) := by
  refine Met.ofW (cc := cX9_pairsOf) (maxL := 4) (ret := (some .long)) (by decide) rfl ?_
  intro p e s m args below meth c s₁ B hml hv
  obtain ⟨rfl, hsz, hP, hK, hD0, hC⟩ := hv
  have hx := B.exec
  have hb := B.bytes
  have hr := B.returns
  have hts0 := atoms_spec (ws := Cond.code yX9_pairsOf cX9_pairsOf 4 (some .long) :: TB) B.pre
  have hts : ∀ w ∈ TB, w.before _ s = true := fun w h => hts0 w (List.mem_cons_of_mem _ h)
  have hown : s.vm.findClass RX9 = some m.cls := findClass_of_methodNamed B.named
  have hlocks := B.notSynchronized
  subst hsz
  have hD := hD0.self (sz := s.heap.size)
  generalize hAe : va_A [] s.heap.size = A at hD hC ⊢
  have hA : ∀ q : Nat, s.heap.size ≤ q → A q := fun q h => by rw [← hAe]; exact Or.inr h
  have hl := lv_entry ([.int 0]) (n := 4) (Nat.le_of_ble_eq_true rfl)
  rw [lg_entry_eq]
  generalize (lg_sl ([.int 0]) ++ List.replicate (4 - (lg_sl ([.int 0])).length) Slot.unset).toArray = ls at hl ⊢
  have hl : lv_has ls 4 [(0, .int 0)] := hl
  have hP : va_P (dC, dI) CL [] s.heap := hP
  obtain ⟨H, hH⟩ : ∃ z, z = s.heap := ⟨_, rfl⟩
  rw [← hH] at hP ⊢
  have hS : va_S A s.heap H [] := by rw [hH]; exact va_S.rf
  refine lv_lconst (v := 0) hx hb dX9_pairsOf_0 (by decide) ?_
  refine lv_lstore_n (lv' := [(1, .long 0), (0, .int 0)]) hx hb dX9_pairsOf_1 rfl hl (by decide) rfl (fun ls hl => ?_)
  refine lv_iconst (v := 0) hx hb dX9_pairsOf_2 (by decide) ?_
  refine lv_istore_n (lv' := [(3, .int 0), (1, .long 0), (0, .int 0)]) hx hb dX9_pairsOf_3 rfl hl (by decide) rfl (fun ls hl => ?_)
  refine lv_iload_n hx hb dX9_pairsOf_4 rfl (lv_at hl 0 rfl) ?_
  refine lv_bipush (v := 8) hx hb dX9_pairsOf_5 (by decide) ?_
  refine lv_icmp_ge (tgt := 35) hx hb dX9_pairsOf_7 (by decide) (fun h => absurd h (by decide)) (fun _ => ?_)
  refine lv_iload_n hx hb dX9_pairsOf_10 rfl (lv_at hl 2 rfl) ?_
  refine lv_iload_n hx hb dX9_pairsOf_11 rfl (lv_at hl 0 rfl) ?_
  refine lv_ishr hx hb dX9_pairsOf_12 ?_
  refine x_lit 0 (by decide) ?_
  refine lv_iconst (v := 1) hx hb dX9_pairsOf_13 (by decide) ?_
  refine lv_iand hx hb dX9_pairsOf_14 ?_
  refine x_lit 0 (by decide) ?_
  refine lv_iconst (v := 1) hx hb dX9_pairsOf_15 (by decide) ?_
  refine lv_icmp_ne (tgt := 29) hx hb dX9_pairsOf_16 (by decide) (fun _ => ?_) (fun h => absurd h (by decide))
  refine lv_iinc (v := 1) (lv' := [(3, .int 1), (1, .long 0), (0, .int 0)]) hx hb dX9_pairsOf_29 hl (k := 0) rfl (by decide) (by decide) rfl (fun ls hl => ?_)
  refine lv_goto (tgt := 4) hx hb dX9_pairsOf_32 (by decide) ?_
  refine lv_iload_n hx hb dX9_pairsOf_4 rfl (lv_at hl 0 rfl) ?_
  refine lv_bipush (v := 8) hx hb dX9_pairsOf_5 (by decide) ?_
  refine lv_icmp_ge (tgt := 35) hx hb dX9_pairsOf_7 (by decide) (fun h => absurd h (by decide)) (fun _ => ?_)
  refine lv_iload_n hx hb dX9_pairsOf_10 rfl (lv_at hl 2 rfl) ?_
  refine lv_iload_n hx hb dX9_pairsOf_11 rfl (lv_at hl 0 rfl) ?_
  refine lv_ishr hx hb dX9_pairsOf_12 ?_
  refine x_lit 0 (by decide) ?_
  refine lv_iconst (v := 1) hx hb dX9_pairsOf_13 (by decide) ?_
  refine lv_iand hx hb dX9_pairsOf_14 ?_
  refine x_lit 0 (by decide) ?_
  refine lv_iconst (v := 1) hx hb dX9_pairsOf_15 (by decide) ?_
  refine lv_icmp_ne (tgt := 29) hx hb dX9_pairsOf_16 (by decide) (fun _ => ?_) (fun h => absurd h (by decide))
  refine lv_iinc (v := 2) (lv' := [(3, .int 2), (1, .long 0), (0, .int 0)]) hx hb dX9_pairsOf_29 hl (k := 0) rfl (by decide) (by decide) rfl (fun ls hl => ?_)
  refine lv_goto (tgt := 4) hx hb dX9_pairsOf_32 (by decide) ?_
  refine lv_iload_n hx hb dX9_pairsOf_4 rfl (lv_at hl 0 rfl) ?_
  refine lv_bipush (v := 8) hx hb dX9_pairsOf_5 (by decide) ?_
  refine lv_icmp_ge (tgt := 35) hx hb dX9_pairsOf_7 (by decide) (fun h => absurd h (by decide)) (fun _ => ?_)
  refine lv_iload_n hx hb dX9_pairsOf_10 rfl (lv_at hl 2 rfl) ?_
  refine lv_iload_n hx hb dX9_pairsOf_11 rfl (lv_at hl 0 rfl) ?_
  refine lv_ishr hx hb dX9_pairsOf_12 ?_
  refine x_lit 0 (by decide) ?_
  refine lv_iconst (v := 1) hx hb dX9_pairsOf_13 (by decide) ?_
  refine lv_iand hx hb dX9_pairsOf_14 ?_
  refine x_lit 0 (by decide) ?_
  refine lv_iconst (v := 1) hx hb dX9_pairsOf_15 (by decide) ?_
  refine lv_icmp_ne (tgt := 29) hx hb dX9_pairsOf_16 (by decide) (fun _ => ?_) (fun h => absurd h (by decide))
  refine lv_iinc (v := 3) (lv' := [(3, .int 3), (1, .long 0), (0, .int 0)]) hx hb dX9_pairsOf_29 hl (k := 0) rfl (by decide) (by decide) rfl (fun ls hl => ?_)
  refine lv_goto (tgt := 4) hx hb dX9_pairsOf_32 (by decide) ?_
  refine lv_iload_n hx hb dX9_pairsOf_4 rfl (lv_at hl 0 rfl) ?_
  refine lv_bipush (v := 8) hx hb dX9_pairsOf_5 (by decide) ?_
  refine lv_icmp_ge (tgt := 35) hx hb dX9_pairsOf_7 (by decide) (fun h => absurd h (by decide)) (fun _ => ?_)
  refine lv_iload_n hx hb dX9_pairsOf_10 rfl (lv_at hl 2 rfl) ?_
  refine lv_iload_n hx hb dX9_pairsOf_11 rfl (lv_at hl 0 rfl) ?_
  refine lv_ishr hx hb dX9_pairsOf_12 ?_
  refine x_lit 0 (by decide) ?_
  refine lv_iconst (v := 1) hx hb dX9_pairsOf_13 (by decide) ?_
  refine lv_iand hx hb dX9_pairsOf_14 ?_
  refine x_lit 0 (by decide) ?_
  refine lv_iconst (v := 1) hx hb dX9_pairsOf_15 (by decide) ?_
  refine lv_icmp_ne (tgt := 29) hx hb dX9_pairsOf_16 (by decide) (fun _ => ?_) (fun h => absurd h (by decide))
  refine lv_iinc (v := 4) (lv' := [(3, .int 4), (1, .long 0), (0, .int 0)]) hx hb dX9_pairsOf_29 hl (k := 0) rfl (by decide) (by decide) rfl (fun ls hl => ?_)
  refine lv_goto (tgt := 4) hx hb dX9_pairsOf_32 (by decide) ?_
  refine lv_iload_n hx hb dX9_pairsOf_4 rfl (lv_at hl 0 rfl) ?_
  refine lv_bipush (v := 8) hx hb dX9_pairsOf_5 (by decide) ?_
  refine lv_icmp_ge (tgt := 35) hx hb dX9_pairsOf_7 (by decide) (fun h => absurd h (by decide)) (fun _ => ?_)
  refine lv_iload_n hx hb dX9_pairsOf_10 rfl (lv_at hl 2 rfl) ?_
  refine lv_iload_n hx hb dX9_pairsOf_11 rfl (lv_at hl 0 rfl) ?_
  refine lv_ishr hx hb dX9_pairsOf_12 ?_
  refine x_lit 0 (by decide) ?_
  refine lv_iconst (v := 1) hx hb dX9_pairsOf_13 (by decide) ?_
  refine lv_iand hx hb dX9_pairsOf_14 ?_
  refine x_lit 0 (by decide) ?_
  refine lv_iconst (v := 1) hx hb dX9_pairsOf_15 (by decide) ?_
  refine lv_icmp_ne (tgt := 29) hx hb dX9_pairsOf_16 (by decide) (fun _ => ?_) (fun h => absurd h (by decide))
  refine lv_iinc (v := 5) (lv' := [(3, .int 5), (1, .long 0), (0, .int 0)]) hx hb dX9_pairsOf_29 hl (k := 0) rfl (by decide) (by decide) rfl (fun ls hl => ?_)
  refine lv_goto (tgt := 4) hx hb dX9_pairsOf_32 (by decide) ?_
  refine lv_iload_n hx hb dX9_pairsOf_4 rfl (lv_at hl 0 rfl) ?_
  refine lv_bipush (v := 8) hx hb dX9_pairsOf_5 (by decide) ?_
  refine lv_icmp_ge (tgt := 35) hx hb dX9_pairsOf_7 (by decide) (fun h => absurd h (by decide)) (fun _ => ?_)
  refine lv_iload_n hx hb dX9_pairsOf_10 rfl (lv_at hl 2 rfl) ?_
  refine lv_iload_n hx hb dX9_pairsOf_11 rfl (lv_at hl 0 rfl) ?_
  refine lv_ishr hx hb dX9_pairsOf_12 ?_
  refine x_lit 0 (by decide) ?_
  refine lv_iconst (v := 1) hx hb dX9_pairsOf_13 (by decide) ?_
  refine lv_iand hx hb dX9_pairsOf_14 ?_
  refine x_lit 0 (by decide) ?_
  refine lv_iconst (v := 1) hx hb dX9_pairsOf_15 (by decide) ?_
  refine lv_icmp_ne (tgt := 29) hx hb dX9_pairsOf_16 (by decide) (fun _ => ?_) (fun h => absurd h (by decide))
  refine lv_iinc (v := 6) (lv' := [(3, .int 6), (1, .long 0), (0, .int 0)]) hx hb dX9_pairsOf_29 hl (k := 0) rfl (by decide) (by decide) rfl (fun ls hl => ?_)
  refine lv_goto (tgt := 4) hx hb dX9_pairsOf_32 (by decide) ?_
  refine lv_iload_n hx hb dX9_pairsOf_4 rfl (lv_at hl 0 rfl) ?_
  refine lv_bipush (v := 8) hx hb dX9_pairsOf_5 (by decide) ?_
  refine lv_icmp_ge (tgt := 35) hx hb dX9_pairsOf_7 (by decide) (fun h => absurd h (by decide)) (fun _ => ?_)
  refine lv_iload_n hx hb dX9_pairsOf_10 rfl (lv_at hl 2 rfl) ?_
  refine lv_iload_n hx hb dX9_pairsOf_11 rfl (lv_at hl 0 rfl) ?_
  refine lv_ishr hx hb dX9_pairsOf_12 ?_
  refine x_lit 0 (by decide) ?_
  refine lv_iconst (v := 1) hx hb dX9_pairsOf_13 (by decide) ?_
  refine lv_iand hx hb dX9_pairsOf_14 ?_
  refine x_lit 0 (by decide) ?_
  refine lv_iconst (v := 1) hx hb dX9_pairsOf_15 (by decide) ?_
  refine lv_icmp_ne (tgt := 29) hx hb dX9_pairsOf_16 (by decide) (fun _ => ?_) (fun h => absurd h (by decide))
  refine lv_iinc (v := 7) (lv' := [(3, .int 7), (1, .long 0), (0, .int 0)]) hx hb dX9_pairsOf_29 hl (k := 0) rfl (by decide) (by decide) rfl (fun ls hl => ?_)
  refine lv_goto (tgt := 4) hx hb dX9_pairsOf_32 (by decide) ?_
  refine lv_iload_n hx hb dX9_pairsOf_4 rfl (lv_at hl 0 rfl) ?_
  refine lv_bipush (v := 8) hx hb dX9_pairsOf_5 (by decide) ?_
  refine lv_icmp_ge (tgt := 35) hx hb dX9_pairsOf_7 (by decide) (fun h => absurd h (by decide)) (fun _ => ?_)
  refine lv_iload_n hx hb dX9_pairsOf_10 rfl (lv_at hl 2 rfl) ?_
  refine lv_iload_n hx hb dX9_pairsOf_11 rfl (lv_at hl 0 rfl) ?_
  refine lv_ishr hx hb dX9_pairsOf_12 ?_
  refine x_lit 0 (by decide) ?_
  refine lv_iconst (v := 1) hx hb dX9_pairsOf_13 (by decide) ?_
  refine lv_iand hx hb dX9_pairsOf_14 ?_
  refine x_lit 0 (by decide) ?_
  refine lv_iconst (v := 1) hx hb dX9_pairsOf_15 (by decide) ?_
  refine lv_icmp_ne (tgt := 29) hx hb dX9_pairsOf_16 (by decide) (fun _ => ?_) (fun h => absurd h (by decide))
  refine lv_iinc (v := 8) (lv' := [(3, .int 8), (1, .long 0), (0, .int 0)]) hx hb dX9_pairsOf_29 hl (k := 0) rfl (by decide) (by decide) rfl (fun ls hl => ?_)
  refine lv_goto (tgt := 4) hx hb dX9_pairsOf_32 (by decide) ?_
  refine lv_iload_n hx hb dX9_pairsOf_4 rfl (lv_at hl 0 rfl) ?_
  refine lv_bipush (v := 8) hx hb dX9_pairsOf_5 (by decide) ?_
  refine lv_icmp_ge (tgt := 35) hx hb dX9_pairsOf_7 (by decide) (fun _ => ?_) (fun h => (h (by decide)).elim)
  refine lv_lload_n hx hb dX9_pairsOf_35 rfl (lv_at hl 1 rfl) ?_
  refine W.widen (k := 0) (n := 0) (Nat.le_of_ble_eq_true rfl) (Nat.le_of_ble_eq_true rfl) ?_
  have hP9 := hP.sub (ws' := []) [] rfl
  have hD9 := hD.sub (ws' := []) [] (by decide) rfl
  have hK9 := hK.sub (tys' := []) [] rfl
  exact W.lret (v := 0) hx hb hr (fun t ht hW => ⟨⟨0, (), rfl, rfl, by rw [ht]; exact hP9, va_K.moved hW.alike hK9, hD9⟩, hS.F ht⟩) hS.2.2 dX9_pairsOf_36
set_option maxHeartbeats 4000000 in
set_option maxRecDepth 100000 in
theorem zX6_workOut (l : Launch) (dC : Nat → ClassId) (dI : Nat → Nat → Nat) (adK adV : Nat → Nat) (sz : Nat) (a0 : Nat) (a1 : Nat) (a2 : Nat) (a3 : Nat) (a4 : Nat) (a5 : Nat) (a6 : Nat) (a7 : Nat) (a8 : Nat) (a9 : Nat) (a10 : Nat) (a11 : Nat) (k0 : ClassId) (f0 : Nat → Int32) (k1 : ClassId) (f1 : Nat → Int32) (k2 : ClassId) (f2 : Nat → Int32) (a12 : Nat) (a13 : Nat) (a14 : Nat) (a15 : Nat) (a16 : Nat) (a17 : Nat) (a18 : Nat) (a19 : Nat) : Met l yX6_workOut (Cond.code yX6_workOut cX6_workOut 2 none :: TB) ({ frames := 2, cells := 0, slots := 0, locals := 123 }) (XP (dC, dI) adK adV [.ref a0] sz [(a1, .inr (2, [.ref a2, .ref a3, .ref a4, .ref a5, .ref a6, .int 0, .int 0, .ref a7, .ref a8, .long 0, .int 0, .int 0, .int 0, .int (-1)])), (a0, .inr (6, [.ref a1, .int 0, .ref a9, .ref a10, .ref a11])), (a9, .inl (k0, 256, .inl f0)), (a10, .inl (k1, 256, .inl f1)), (a11, .inl (k2, 256, .inl f2)), (a2, .inr (0, [.int 0, .int 0, .int 0, .int 0, .int 0, .int 0, .long 0, .ref a12, .ref a13, .ref a14, .ref a15, .ref a16, .ref a17, .ref a18])), (a14, .inr (5, [.ref a19, .int 0]))] [(k0, .int), (k1, .int), (k2, .int)]) (va_Qv (fun _ : Unit => True) (fun _ t => va_P (dC, dI) CL [(a1, .inr (2, [.ref a2, .ref a3, .ref a4, .ref a5, .ref a6, .int 0, .int 0, .ref a7, .ref a8, .long 0, .int 0, .int 0, .int 0, .int (-1)])), (a0, .inr (6, [.ref a1, .int 1, .ref a9, .ref a10, .ref a11])), (a9, .inl (k0, 256, .inl (upd f0 0 0))), (a10, .inl (k1, 256, .inl (upd f1 0 (-1)))), (a11, .inl (k2, 256, .inl (upd f2 0 0))), (a2, .inr (0, [.int 0, .int 0, .int 0, .int 0, .int 0, .int 0, .long 0, .ref a12, .ref a13, .ref a14, .ref a15, .ref a16, .ref a17, .ref a18])), (a14, .inr (5, [.ref a19, .int 0]))] t.heap ∧ va_K (dC, dI) CL [(k0, .int), (k1, .int), (k2, .int)] t ∧ va_D (va_A [(a1, .inr (2, [.ref a2, .ref a3, .ref a4, .ref a5, .ref a6, .int 0, .int 0, .ref a7, .ref a8, .long 0, .int 0, .int 0, .int 0, .int (-1)])), (a0, .inr (6, [.ref a1, .int 0, .ref a9, .ref a10, .ref a11])), (a9, .inl (k0, 256, .inl f0)), (a10, .inl (k1, 256, .inl f1)), (a11, .inl (k2, 256, .inl f2)), (a2, .inr (0, [.int 0, .int 0, .int 0, .int 0, .int 0, .int 0, .long 0, .ref a12, .ref a13, .ref a14, .ref a15, .ref a16, .ref a17, .ref a18])), (a14, .inr (5, [.ref a19, .int 0]))] sz) [(a1, .inr (2, [.ref a2, .ref a3, .ref a4, .ref a5, .ref a6, .int 0, .int 0, .ref a7, .ref a8, .long 0, .int 0, .int 0, .int 0, .int (-1)])), (a0, .inr (6, [.ref a1, .int 1, .ref a9, .ref a10, .ref a11])), (a9, .inl (k0, 256, .inl (upd f0 0 0))), (a10, .inl (k1, 256, .inl (upd f1 0 (-1)))), (a11, .inl (k2, 256, .inl (upd f2 0 0))), (a2, .inr (0, [.int 0, .int 0, .int 0, .int 0, .int 0, .int 0, .long 0, .ref a12, .ref a13, .ref a14, .ref a15, .ref a16, .ref a17, .ref a18])), (a14, .inr (5, [.ref a19, .int 0]))]) (va_A [(a1, .inr (2, [.ref a2, .ref a3, .ref a4, .ref a5, .ref a6, .int 0, .int 0, .ref a7, .ref a8, .long 0, .int 0, .int 0, .int 0, .int (-1)])), (a0, .inr (6, [.ref a1, .int 0, .ref a9, .ref a10, .ref a11])), (a9, .inl (k0, 256, .inl f0)), (a10, .inl (k1, 256, .inl f1)), (a11, .inl (k2, 256, .inl f2)), (a2, .inr (0, [.int 0, .int 0, .int 0, .int 0, .int 0, .int 0, .long 0, .ref a12, .ref a13, .ref a14, .ref a15, .ref a16, .ref a17, .ref a18])), (a14, .inr (5, [.ref a19, .int 0]))] sz)) 0 0 (va_A [(a1, .inr (2, [.ref a2, .ref a3, .ref a4, .ref a5, .ref a6, .int 0, .int 0, .ref a7, .ref a8, .long 0, .int 0, .int 0, .int 0, .int (-1)])), (a0, .inr (6, [.ref a1, .int 0, .ref a9, .ref a10, .ref a11])), (a9, .inl (k0, 256, .inl f0)), (a10, .inl (k1, 256, .inl f1)), (a11, .inl (k2, 256, .inl f2)), (a2, .inr (0, [.int 0, .int 0, .int 0, .int 0, .int 0, .int 0, .long 0, .ref a12, .ref a13, .ref a14, .ref a15, .ref a16, .ref a17, .ref a18])), (a14, .inr (5, [.ref a19, .int 0]))] sz) := by
  refine Met.ofW (cc := cX6_workOut) (maxL := 2) (ret := none) (by decide) rfl ?_
  intro p e s m args below meth c s₁ B hml hv
  obtain ⟨rfl, hsz, hP, hK, hD0, hC⟩ := hv
  have hx := B.exec
  have hb := B.bytes
  have hr := B.returns
  have hts0 := atoms_spec (ws := Cond.code yX6_workOut cX6_workOut 2 none :: TB) B.pre
  have hts : ∀ w ∈ TB, w.before _ s = true := fun w h => hts0 w (List.mem_cons_of_mem _ h)
  have hown : s.vm.findClass RX6 = some m.cls := findClass_of_methodNamed B.named
  have hlocks := B.notSynchronized
  subst hsz
  have hD := hD0.self (sz := s.heap.size)
  generalize hAe : va_A [(a1, .inr (2, [.ref a2, .ref a3, .ref a4, .ref a5, .ref a6, .int 0, .int 0, .ref a7, .ref a8, .long 0, .int 0, .int 0, .int 0, .int (-1)])), (a0, .inr (6, [.ref a1, .int 0, .ref a9, .ref a10, .ref a11])), (a9, .inl (k0, 256, .inl f0)), (a10, .inl (k1, 256, .inl f1)), (a11, .inl (k2, 256, .inl f2)), (a2, .inr (0, [.int 0, .int 0, .int 0, .int 0, .int 0, .int 0, .long 0, .ref a12, .ref a13, .ref a14, .ref a15, .ref a16, .ref a17, .ref a18])), (a14, .inr (5, [.ref a19, .int 0]))] s.heap.size = A at hD hC ⊢
  have hA : ∀ q : Nat, s.heap.size ≤ q → A q := fun q h => by rw [← hAe]; exact Or.inr h
  have hl := lv_entry ([.ref a0]) (n := 2) (Nat.le_of_ble_eq_true rfl)
  rw [lg_entry_eq]
  generalize (lg_sl ([.ref a0]) ++ List.replicate (2 - (lg_sl ([.ref a0])).length) Slot.unset).toArray = ls at hl ⊢
  have hl : lv_has ls 2 [(0, .ref a0)] := hl
  have hP : va_P (dC, dI) CL [(a1, .inr (2, [.ref a2, .ref a3, .ref a4, .ref a5, .ref a6, .int 0, .int 0, .ref a7, .ref a8, .long 0, .int 0, .int 0, .int 0, .int (-1)])), (a0, .inr (6, [.ref a1, .int 0, .ref a9, .ref a10, .ref a11])), (a9, .inl (k0, 256, .inl f0)), (a10, .inl (k1, 256, .inl f1)), (a11, .inl (k2, 256, .inl f2)), (a2, .inr (0, [.int 0, .int 0, .int 0, .int 0, .int 0, .int 0, .long 0, .ref a12, .ref a13, .ref a14, .ref a15, .ref a16, .ref a17, .ref a18])), (a14, .inr (5, [.ref a19, .int 0]))] s.heap := hP
  obtain ⟨H, hH⟩ : ∃ z, z = s.heap := ⟨_, rfl⟩
  rw [← hH] at hP ⊢
  have hS : va_S A s.heap H [] := by rw [hH]; exact va_S.rf
  refine lv_aload_n hx hb dX6_workOut_0 rfl (lv_at hl 0 rfl) ?_
  refine va_get (D := (dC, dI)) (ci := 6) (v := .int 0) (C := RX6) (T := TX6) (N := 5) hx hb hts iwX6 hown hK hP 1 rfl rfl 1 (by decide) (hts _ mw_498) (fun _ h9 => h9) rfl dX6_workOut_1 ?_
  refine lv_if_eq (tgt := 8) hx hb dX6_workOut_4 (by decide) (fun _ => ?_) (fun h => (h (by decide)).elim)
  refine lv_aload_n hx hb dX6_workOut_8 rfl (lv_at hl 0 rfl) ?_
  refine lv_iconst (v := 1) hx hb dX6_workOut_9 (by decide) ?_
  refine va_put (D := (dC, dI)) (ci := 6) (v := .int 1) (ty := .boolean) (C := RX6) (T := TX6) (N := 5) hx hb hts iwX6 tyX6 tyX6_ok nmX6 hown hK hP hD hS 1 rfl rfl 1 (by decide) (hts _ mw_498) (fun _ h9 => h9) rfl (by decide +kernel) rfl rfl (Nat.le_of_ble_eq_true rfl) dX6_workOut_10 (fun H locs hP hD hS => ?_)
  have hP : va_P (dC, dI) CL [(a1, .inr (2, [.ref a2, .ref a3, .ref a4, .ref a5, .ref a6, .int 0, .int 0, .ref a7, .ref a8, .long 0, .int 0, .int 0, .int 0, .int (-1)])), (a0, .inr (6, [.ref a1, .int 1, .ref a9, .ref a10, .ref a11])), (a9, .inl (k0, 256, .inl f0)), (a10, .inl (k1, 256, .inl f1)), (a11, .inl (k2, 256, .inl f2)), (a2, .inr (0, [.int 0, .int 0, .int 0, .int 0, .int 0, .int 0, .long 0, .ref a12, .ref a13, .ref a14, .ref a15, .ref a16, .ref a17, .ref a18])), (a14, .inr (5, [.ref a19, .int 0]))] H := hP
  have hD : va_D A [(a1, .inr (2, [.ref a2, .ref a3, .ref a4, .ref a5, .ref a6, .int 0, .int 0, .ref a7, .ref a8, .long 0, .int 0, .int 0, .int 0, .int (-1)])), (a0, .inr (6, [.ref a1, .int 1, .ref a9, .ref a10, .ref a11])), (a9, .inl (k0, 256, .inl f0)), (a10, .inl (k1, 256, .inl f1)), (a11, .inl (k2, 256, .inl f2)), (a2, .inr (0, [.int 0, .int 0, .int 0, .int 0, .int 0, .int 0, .long 0, .ref a12, .ref a13, .ref a14, .ref a15, .ref a16, .ref a17, .ref a18])), (a14, .inr (5, [.ref a19, .int 0]))] := hD
  refine lv_iconst (v := 0) hx hb dX6_workOut_13 (by decide) ?_
  refine lv_istore_n (lv' := [(1, .int 0), (0, .ref a0)]) hx hb dX6_workOut_14 rfl hl (by decide) rfl (fun ls hl => ?_)
  refine lv_iload_n hx hb dX6_workOut_15 rfl (lv_at hl 0 rfl) ?_
  refine lv_iconst (v := 1) hx hb dX6_workOut_16 (by decide) ?_
  refine lv_aload_n hx hb dX6_workOut_17 rfl (lv_at hl 1 rfl) ?_
  refine va_get (D := (dC, dI)) (ci := 6) (v := .ref a1) (C := RX6) (T := TX6) (N := 5) hx hb hts iwX6 hown hK hP 1 rfl rfl 0 (by decide) (hts _ mw_497) (fun _ h9 => h9) rfl dX6_workOut_18 ?_
  refine va_get (D := (dC, dI)) (ci := 2) (v := .ref a2) (C := RX2) (T := TX2) (N := 14) hx hb hts iwX2 hown hK hP 0 rfl rfl 0 (by decide) (hts _ mw_439) (fun _ h9 => h9) rfl dX6_workOut_21 ?_
  refine va_get (D := (dC, dI)) (ci := 0) (v := .ref a14) (C := RX0) (T := TX0) (N := 14) hx hb hts iwX0 hown hK hP 5 rfl rfl 9 (by decide) (hts _ mw_263) (fun _ h9 => h9) rfl dX6_workOut_24 ?_
  refine va_get (D := (dC, dI)) (ci := 5) (v := .int 0) (C := RX5) (T := TX5) (N := 2) hx hb hts iwX5 hown hK hP 6 rfl rfl 1 (by decide) (hts _ mw_146) (fun _ h9 => h9) rfl dX6_workOut_27 ?_
  refine lv_ishl hx hb dX6_workOut_30 ?_
  refine x_lit 1 (by decide) ?_
  refine lv_icmp_ge (tgt := 83) hx hb dX6_workOut_31 (by decide) (fun h => absurd h (by decide)) (fun _ => ?_)
  refine lv_aload_n hx hb dX6_workOut_34 rfl (lv_at hl 1 rfl) ?_
  refine va_get (D := (dC, dI)) (ci := 6) (v := .ref a9) (C := RX6) (T := TX6) (N := 5) hx hb hts iwX6 hown hK hP 1 rfl rfl 2 (by decide) (hts _ mw_499) (fun _ h9 => h9) rfl dX6_workOut_35 ?_
  refine lv_iload_n hx hb dX6_workOut_38 rfl (lv_at hl 0 rfl) ?_
  refine lv_iconst (v := 0) hx hb dX6_workOut_39 (by decide) ?_
  refine x_iast (k := 0) hx hb hK hP hD hS 2 0 rfl rfl (by decide) (by decide) (by decide) dX6_workOut_40 (upd f0 0 0) rfl (fun H locs hP hD hS => ?_)
  have hP : va_P (dC, dI) CL [(a1, .inr (2, [.ref a2, .ref a3, .ref a4, .ref a5, .ref a6, .int 0, .int 0, .ref a7, .ref a8, .long 0, .int 0, .int 0, .int 0, .int (-1)])), (a0, .inr (6, [.ref a1, .int 1, .ref a9, .ref a10, .ref a11])), (a9, .inl (k0, 256, .inl (upd f0 0 0))), (a10, .inl (k1, 256, .inl f1)), (a11, .inl (k2, 256, .inl f2)), (a2, .inr (0, [.int 0, .int 0, .int 0, .int 0, .int 0, .int 0, .long 0, .ref a12, .ref a13, .ref a14, .ref a15, .ref a16, .ref a17, .ref a18])), (a14, .inr (5, [.ref a19, .int 0]))] H := hP
  have hD : va_D A [(a1, .inr (2, [.ref a2, .ref a3, .ref a4, .ref a5, .ref a6, .int 0, .int 0, .ref a7, .ref a8, .long 0, .int 0, .int 0, .int 0, .int (-1)])), (a0, .inr (6, [.ref a1, .int 1, .ref a9, .ref a10, .ref a11])), (a9, .inl (k0, 256, .inl (upd f0 0 0))), (a10, .inl (k1, 256, .inl f1)), (a11, .inl (k2, 256, .inl f2)), (a2, .inr (0, [.int 0, .int 0, .int 0, .int 0, .int 0, .int 0, .long 0, .ref a12, .ref a13, .ref a14, .ref a15, .ref a16, .ref a17, .ref a18])), (a14, .inr (5, [.ref a19, .int 0]))] := hD
  refine lv_aload_n hx hb dX6_workOut_41 rfl (lv_at hl 1 rfl) ?_
  refine va_get (D := (dC, dI)) (ci := 6) (v := .ref a10) (C := RX6) (T := TX6) (N := 5) hx hb hts iwX6 hown hK hP 1 rfl rfl 3 (by decide) (hts _ mw_500) (fun _ h9 => h9) rfl dX6_workOut_42 ?_
  refine lv_iload_n hx hb dX6_workOut_45 rfl (lv_at hl 0 rfl) ?_
  refine lv_iconst (v := (-1)) hx hb dX6_workOut_46 (by decide) ?_
  refine x_iast (k := 0) hx hb hK hP hD hS 3 1 rfl rfl (by decide) (by decide) (by decide) dX6_workOut_47 (upd f1 0 (-1)) rfl (fun H locs hP hD hS => ?_)
  have hP : va_P (dC, dI) CL [(a1, .inr (2, [.ref a2, .ref a3, .ref a4, .ref a5, .ref a6, .int 0, .int 0, .ref a7, .ref a8, .long 0, .int 0, .int 0, .int 0, .int (-1)])), (a0, .inr (6, [.ref a1, .int 1, .ref a9, .ref a10, .ref a11])), (a9, .inl (k0, 256, .inl (upd f0 0 0))), (a10, .inl (k1, 256, .inl (upd f1 0 (-1)))), (a11, .inl (k2, 256, .inl f2)), (a2, .inr (0, [.int 0, .int 0, .int 0, .int 0, .int 0, .int 0, .long 0, .ref a12, .ref a13, .ref a14, .ref a15, .ref a16, .ref a17, .ref a18])), (a14, .inr (5, [.ref a19, .int 0]))] H := hP
  have hD : va_D A [(a1, .inr (2, [.ref a2, .ref a3, .ref a4, .ref a5, .ref a6, .int 0, .int 0, .ref a7, .ref a8, .long 0, .int 0, .int 0, .int 0, .int (-1)])), (a0, .inr (6, [.ref a1, .int 1, .ref a9, .ref a10, .ref a11])), (a9, .inl (k0, 256, .inl (upd f0 0 0))), (a10, .inl (k1, 256, .inl (upd f1 0 (-1)))), (a11, .inl (k2, 256, .inl f2)), (a2, .inr (0, [.int 0, .int 0, .int 0, .int 0, .int 0, .int 0, .long 0, .ref a12, .ref a13, .ref a14, .ref a15, .ref a16, .ref a17, .ref a18])), (a14, .inr (5, [.ref a19, .int 0]))] := hD
  refine lv_aload_n hx hb dX6_workOut_48 rfl (lv_at hl 1 rfl) ?_
  refine va_get (D := (dC, dI)) (ci := 6) (v := .ref a11) (C := RX6) (T := TX6) (N := 5) hx hb hts iwX6 hown hK hP 1 rfl rfl 4 (by decide) (hts _ mw_501) (fun _ h9 => h9) rfl dX6_workOut_49 ?_
  refine lv_iload_n hx hb dX6_workOut_52 rfl (lv_at hl 0 rfl) ?_
  refine lv_iconst (v := 0) hx hb dX6_workOut_53 (by decide) ?_
  refine x_iast (k := 0) hx hb hK hP hD hS 4 2 rfl rfl (by decide) (by decide) (by decide) dX6_workOut_54 (upd f2 0 0) rfl (fun H locs hP hD hS => ?_)
  have hP : va_P (dC, dI) CL [(a1, .inr (2, [.ref a2, .ref a3, .ref a4, .ref a5, .ref a6, .int 0, .int 0, .ref a7, .ref a8, .long 0, .int 0, .int 0, .int 0, .int (-1)])), (a0, .inr (6, [.ref a1, .int 1, .ref a9, .ref a10, .ref a11])), (a9, .inl (k0, 256, .inl (upd f0 0 0))), (a10, .inl (k1, 256, .inl (upd f1 0 (-1)))), (a11, .inl (k2, 256, .inl (upd f2 0 0))), (a2, .inr (0, [.int 0, .int 0, .int 0, .int 0, .int 0, .int 0, .long 0, .ref a12, .ref a13, .ref a14, .ref a15, .ref a16, .ref a17, .ref a18])), (a14, .inr (5, [.ref a19, .int 0]))] H := hP
  have hD : va_D A [(a1, .inr (2, [.ref a2, .ref a3, .ref a4, .ref a5, .ref a6, .int 0, .int 0, .ref a7, .ref a8, .long 0, .int 0, .int 0, .int 0, .int (-1)])), (a0, .inr (6, [.ref a1, .int 1, .ref a9, .ref a10, .ref a11])), (a9, .inl (k0, 256, .inl (upd f0 0 0))), (a10, .inl (k1, 256, .inl (upd f1 0 (-1)))), (a11, .inl (k2, 256, .inl (upd f2 0 0))), (a2, .inr (0, [.int 0, .int 0, .int 0, .int 0, .int 0, .int 0, .long 0, .ref a12, .ref a13, .ref a14, .ref a15, .ref a16, .ref a17, .ref a18])), (a14, .inr (5, [.ref a19, .int 0]))] := hD
  refine lv_aload_n hx hb dX6_workOut_55 rfl (lv_at hl 1 rfl) ?_
  refine va_get (D := (dC, dI)) (ci := 6) (v := .ref a1) (C := RX6) (T := TX6) (N := 5) hx hb hts iwX6 hown hK hP 1 rfl rfl 0 (by decide) (hts _ mw_497) (fun _ h9 => h9) rfl dX6_workOut_56 ?_
  refine va_get (D := (dC, dI)) (ci := 2) (v := .long 0) (C := RX2) (T := TX2) (N := 14) hx hb hts iwX2 hown hK hP 0 rfl rfl 9 (by decide) (hts _ mw_452) (fun _ h9 => h9) rfl dX6_workOut_59 ?_
  refine lv_iload_n hx hb dX6_workOut_62 rfl (lv_at hl 0 rfl) ?_
  have hPc := hP.sub (ws' := []) [] rfl
  have hDc := hD.sub (ws' := []) [] (by decide) rfl
  have hKc := hK.sub (tys' := []) [] rfl
  have hFc := va_free (wc := []) hD hS hA [] rfl
  refine va_calll (va_runSN (As := [.int 0]) (rest := [.long 0]) ⟨hx, hb, hml, hown, hts⟩ (zX9_pairsOf l dC dI adK adV H.size) ⟨va_cnB 1 hts (tb_code mw_1032) rfl rfl rfl hC.p5 (hts _ mw_99) (by decide +kernel) ⟨Nat.le_of_ble_eq_true rfl, Nat.le_of_ble_eq_true rfl⟩, hts _ mw_1031, trivial⟩ ⟨XB, XQ (av := [.int 0]) hPc hKc hDc hC hS hFc⟩ rfl rfl hl.1 rfl (lv_room (Nat.le_of_ble_eq_true rfl)) dX6_workOut_63 ⟨Nat.le_of_ble_eq_true rfl, Nat.le_of_ble_eq_true rfl⟩) hS (fun q _ h => hFc q h) hFc (fun r_1 u_9 t H1 locs ht hvm hw hB hz1 hk1 hS => ?_)
  try dsimp only at hw
  obtain ⟨hP1, hK1, hD1⟩ := hB
  rw [ht] at hP1
  have hK1 := va_K.moved hvm.symm hK1
  obtain ⟨hP, hD⟩ := va_join (wr := [(a1, .inr (2, [.ref a2, .ref a3, .ref a4, .ref a5, .ref a6, .int 0, .int 0, .ref a7, .ref a8, .long 0, .int 0, .int 0, .int 0, .int (-1)])), (a0, .inr (6, [.ref a1, .int 1, .ref a9, .ref a10, .ref a11])), (a9, .inl (k0, 256, .inl (upd f0 0 0))), (a10, .inl (k1, 256, .inl (upd f1 0 (-1)))), (a11, .inl (k2, 256, .inl (upd f2 0 0))), (a2, .inr (0, [.int 0, .int 0, .int 0, .int 0, .int 0, .int 0, .long 0, .ref a12, .ref a13, .ref a14, .ref a15, .ref a16, .ref a17, .ref a18])), (a14, .inr (5, [.ref a19, .int 0]))]) (w1 := []) hP hD [] [0, 1, 2, 3, 4, 5, 6] rfl rfl (by decide) (by decide) hk1 hFc hP1 hD1
  have hK := (hK.sub (tys' := [(k0, .int), (k1, .int), (k2, .int)]) [0, 1, 2] rfl).app hK1
  generalize H1 = H at hP hS ⊢
  have hP : va_P (dC, dI) CL [(a1, .inr (2, [.ref a2, .ref a3, .ref a4, .ref a5, .ref a6, .int 0, .int 0, .ref a7, .ref a8, .long 0, .int 0, .int 0, .int 0, .int (-1)])), (a0, .inr (6, [.ref a1, .int 1, .ref a9, .ref a10, .ref a11])), (a9, .inl (k0, 256, .inl (upd f0 0 0))), (a10, .inl (k1, 256, .inl (upd f1 0 (-1)))), (a11, .inl (k2, 256, .inl (upd f2 0 0))), (a2, .inr (0, [.int 0, .int 0, .int 0, .int 0, .int 0, .int 0, .long 0, .ref a12, .ref a13, .ref a14, .ref a15, .ref a16, .ref a17, .ref a18])), (a14, .inr (5, [.ref a19, .int 0]))] H := hP
  have hD : va_D A [(a1, .inr (2, [.ref a2, .ref a3, .ref a4, .ref a5, .ref a6, .int 0, .int 0, .ref a7, .ref a8, .long 0, .int 0, .int 0, .int 0, .int (-1)])), (a0, .inr (6, [.ref a1, .int 1, .ref a9, .ref a10, .ref a11])), (a9, .inl (k0, 256, .inl (upd f0 0 0))), (a10, .inl (k1, 256, .inl (upd f1 0 (-1)))), (a11, .inl (k2, 256, .inl (upd f2 0 0))), (a2, .inr (0, [.int 0, .int 0, .int 0, .int 0, .int 0, .int 0, .long 0, .ref a12, .ref a13, .ref a14, .ref a15, .ref a16, .ref a17, .ref a18])), (a14, .inr (5, [.ref a19, .int 0]))] := hD
  have hK : va_K (dC, dI) CL [(k0, .int), (k1, .int), (k2, .int)] s := hK
  subst hw
  refine lv_land hx hb dX6_workOut_66 ?_
  refine x_litL 0 (by decide) ?_
  refine lv_lconst (v := 0) hx hb dX6_workOut_67 (by decide) ?_
  refine W.lcmp hx hb dX6_workOut_68 ?_
  refine x_lit 0 (by decide) ?_
  refine lv_if_eq (tgt := 77) hx hb dX6_workOut_69 (by decide) (fun _ => ?_) (fun h => (h (by decide)).elim)
  refine lv_iinc (v := 1) (lv' := [(1, .int 1), (0, .ref a0)]) hx hb dX6_workOut_77 hl (k := 0) rfl (by decide) (by decide) rfl (fun ls hl => ?_)
  refine lv_goto (tgt := 15) hx hb dX6_workOut_80 (by decide) ?_
  refine lv_iload_n hx hb dX6_workOut_15 rfl (lv_at hl 0 rfl) ?_
  refine lv_iconst (v := 1) hx hb dX6_workOut_16 (by decide) ?_
  refine lv_aload_n hx hb dX6_workOut_17 rfl (lv_at hl 1 rfl) ?_
  refine va_get (D := (dC, dI)) (ci := 6) (v := .ref a1) (C := RX6) (T := TX6) (N := 5) hx hb hts iwX6 hown hK hP 1 rfl rfl 0 (by decide) (hts _ mw_497) (fun _ h9 => h9) rfl dX6_workOut_18 ?_
  refine va_get (D := (dC, dI)) (ci := 2) (v := .ref a2) (C := RX2) (T := TX2) (N := 14) hx hb hts iwX2 hown hK hP 0 rfl rfl 0 (by decide) (hts _ mw_439) (fun _ h9 => h9) rfl dX6_workOut_21 ?_
  refine va_get (D := (dC, dI)) (ci := 0) (v := .ref a14) (C := RX0) (T := TX0) (N := 14) hx hb hts iwX0 hown hK hP 5 rfl rfl 9 (by decide) (hts _ mw_263) (fun _ h9 => h9) rfl dX6_workOut_24 ?_
  refine va_get (D := (dC, dI)) (ci := 5) (v := .int 0) (C := RX5) (T := TX5) (N := 2) hx hb hts iwX5 hown hK hP 6 rfl rfl 1 (by decide) (hts _ mw_146) (fun _ h9 => h9) rfl dX6_workOut_27 ?_
  refine lv_ishl hx hb dX6_workOut_30 ?_
  refine x_lit 1 (by decide) ?_
  refine lv_icmp_ge (tgt := 83) hx hb dX6_workOut_31 (by decide) (fun _ => ?_) (fun h => (h (by decide)).elim)
  refine W.widen (k := 0) (n := 0) (Nat.le_of_ble_eq_true rfl) (Nat.le_of_ble_eq_true rfl) ?_
  have hP9 := hP.sub (ws' := [(a1, .inr (2, [.ref a2, .ref a3, .ref a4, .ref a5, .ref a6, .int 0, .int 0, .ref a7, .ref a8, .long 0, .int 0, .int 0, .int 0, .int (-1)])), (a0, .inr (6, [.ref a1, .int 1, .ref a9, .ref a10, .ref a11])), (a9, .inl (k0, 256, .inl (upd f0 0 0))), (a10, .inl (k1, 256, .inl (upd f1 0 (-1)))), (a11, .inl (k2, 256, .inl (upd f2 0 0))), (a2, .inr (0, [.int 0, .int 0, .int 0, .int 0, .int 0, .int 0, .long 0, .ref a12, .ref a13, .ref a14, .ref a15, .ref a16, .ref a17, .ref a18])), (a14, .inr (5, [.ref a19, .int 0]))]) [0, 1, 2, 3, 4, 5, 6] rfl
  have hD9 := hD.sub (ws' := [(a1, .inr (2, [.ref a2, .ref a3, .ref a4, .ref a5, .ref a6, .int 0, .int 0, .ref a7, .ref a8, .long 0, .int 0, .int 0, .int 0, .int (-1)])), (a0, .inr (6, [.ref a1, .int 1, .ref a9, .ref a10, .ref a11])), (a9, .inl (k0, 256, .inl (upd f0 0 0))), (a10, .inl (k1, 256, .inl (upd f1 0 (-1)))), (a11, .inl (k2, 256, .inl (upd f2 0 0))), (a2, .inr (0, [.int 0, .int 0, .int 0, .int 0, .int 0, .int 0, .long 0, .ref a12, .ref a13, .ref a14, .ref a15, .ref a16, .ref a17, .ref a18])), (a14, .inr (5, [.ref a19, .int 0]))]) [0, 1, 2, 3, 4, 5, 6] (by decide) rfl
  have hK9 := hK.sub (tys' := [(k0, .int), (k1, .int), (k2, .int)]) [0, 1, 2] rfl
  exact W.vret hx hb hr (fun t ht hW => ⟨⟨(), rfl, trivial, by rw [ht]; exact hP9, va_K.moved hW.alike hK9, hD9⟩, hS.F ht⟩) hS.2.2 dX6_workOut_83
set_option maxHeartbeats 4000000 in
set_option maxRecDepth 100000 in
theorem zX6_feesByTurn (l : Launch) (dC : Nat → ClassId) (dI : Nat → Nat → Nat) (adK adV : Nat → Nat) (sz : Nat) (a0 : Nat) (a1 : Nat) (a2 : Nat) (a3 : Nat) (a4 : Nat) (a5 : Nat) (a6 : Nat) (a7 : Nat) (a8 : Nat) (a9 : Nat) (a10 : Nat) (a11 : Nat) (k0 : ClassId) (f0 : Nat → Int32) (k1 : ClassId) (f1 : Nat → Int32) (k2 : ClassId) (f2 : Nat → Int32) (a12 : Nat) (a13 : Nat) (a14 : Nat) (a15 : Nat) (a16 : Nat) (a17 : Nat) (a18 : Nat) (a19 : Nat) : Met l yX6_feesByTurn (Cond.code yX6_feesByTurn cX6_feesByTurn 2 (some .int) :: TB) ({ frames := 3, cells := 0, slots := 0, locals := 144 }) (XP (dC, dI) adK adV [.ref a0, .int 0] sz [(a1, .inr (2, [.ref a2, .ref a3, .ref a4, .ref a5, .ref a6, .int 0, .int 0, .ref a7, .ref a8, .long 0, .int 0, .int 0, .int 0, .int (-1)])), (a0, .inr (6, [.ref a1, .int 0, .ref a9, .ref a10, .ref a11])), (a9, .inl (k0, 256, .inl f0)), (a10, .inl (k1, 256, .inl f1)), (a11, .inl (k2, 256, .inl f2)), (a2, .inr (0, [.int 0, .int 0, .int 0, .int 0, .int 0, .int 0, .long 0, .ref a12, .ref a13, .ref a14, .ref a15, .ref a16, .ref a17, .ref a18])), (a14, .inr (5, [.ref a19, .int 0]))] [(k0, .int), (k1, .int), (k2, .int)]) (va_Qi (fun (r : Int32) (_ : Unit) => r = 0) (fun _ t => va_P (dC, dI) CL [(a1, .inr (2, [.ref a2, .ref a3, .ref a4, .ref a5, .ref a6, .int 0, .int 0, .ref a7, .ref a8, .long 0, .int 0, .int 0, .int 0, .int (-1)])), (a0, .inr (6, [.ref a1, .int 1, .ref a9, .ref a10, .ref a11])), (a9, .inl (k0, 256, .inl (upd f0 0 0))), (a10, .inl (k1, 256, .inl (upd f1 0 (-1)))), (a11, .inl (k2, 256, .inl (upd f2 0 0))), (a2, .inr (0, [.int 0, .int 0, .int 0, .int 0, .int 0, .int 0, .long 0, .ref a12, .ref a13, .ref a14, .ref a15, .ref a16, .ref a17, .ref a18])), (a14, .inr (5, [.ref a19, .int 0]))] t.heap ∧ va_K (dC, dI) CL [(k0, .int), (k1, .int), (k2, .int)] t ∧ va_D (va_A [(a1, .inr (2, [.ref a2, .ref a3, .ref a4, .ref a5, .ref a6, .int 0, .int 0, .ref a7, .ref a8, .long 0, .int 0, .int 0, .int 0, .int (-1)])), (a0, .inr (6, [.ref a1, .int 0, .ref a9, .ref a10, .ref a11])), (a9, .inl (k0, 256, .inl f0)), (a10, .inl (k1, 256, .inl f1)), (a11, .inl (k2, 256, .inl f2)), (a2, .inr (0, [.int 0, .int 0, .int 0, .int 0, .int 0, .int 0, .long 0, .ref a12, .ref a13, .ref a14, .ref a15, .ref a16, .ref a17, .ref a18])), (a14, .inr (5, [.ref a19, .int 0]))] sz) [(a1, .inr (2, [.ref a2, .ref a3, .ref a4, .ref a5, .ref a6, .int 0, .int 0, .ref a7, .ref a8, .long 0, .int 0, .int 0, .int 0, .int (-1)])), (a0, .inr (6, [.ref a1, .int 1, .ref a9, .ref a10, .ref a11])), (a9, .inl (k0, 256, .inl (upd f0 0 0))), (a10, .inl (k1, 256, .inl (upd f1 0 (-1)))), (a11, .inl (k2, 256, .inl (upd f2 0 0))), (a2, .inr (0, [.int 0, .int 0, .int 0, .int 0, .int 0, .int 0, .long 0, .ref a12, .ref a13, .ref a14, .ref a15, .ref a16, .ref a17, .ref a18])), (a14, .inr (5, [.ref a19, .int 0]))]) (va_A [(a1, .inr (2, [.ref a2, .ref a3, .ref a4, .ref a5, .ref a6, .int 0, .int 0, .ref a7, .ref a8, .long 0, .int 0, .int 0, .int 0, .int (-1)])), (a0, .inr (6, [.ref a1, .int 0, .ref a9, .ref a10, .ref a11])), (a9, .inl (k0, 256, .inl f0)), (a10, .inl (k1, 256, .inl f1)), (a11, .inl (k2, 256, .inl f2)), (a2, .inr (0, [.int 0, .int 0, .int 0, .int 0, .int 0, .int 0, .long 0, .ref a12, .ref a13, .ref a14, .ref a15, .ref a16, .ref a17, .ref a18])), (a14, .inr (5, [.ref a19, .int 0]))] sz)) 0 0 (va_A [(a1, .inr (2, [.ref a2, .ref a3, .ref a4, .ref a5, .ref a6, .int 0, .int 0, .ref a7, .ref a8, .long 0, .int 0, .int 0, .int 0, .int (-1)])), (a0, .inr (6, [.ref a1, .int 0, .ref a9, .ref a10, .ref a11])), (a9, .inl (k0, 256, .inl f0)), (a10, .inl (k1, 256, .inl f1)), (a11, .inl (k2, 256, .inl f2)), (a2, .inr (0, [.int 0, .int 0, .int 0, .int 0, .int 0, .int 0, .long 0, .ref a12, .ref a13, .ref a14, .ref a15, .ref a16, .ref a17, .ref a18])), (a14, .inr (5, [.ref a19, .int 0]))] sz) := by
  refine Met.ofW (cc := cX6_feesByTurn) (maxL := 2) (ret := (some .int)) (by decide) rfl ?_
  intro p e s m args below meth c s₁ B hml hv
  obtain ⟨rfl, hsz, hP, hK, hD0, hC⟩ := hv
  have hx := B.exec
  have hb := B.bytes
  have hr := B.returns
  have hts0 := atoms_spec (ws := Cond.code yX6_feesByTurn cX6_feesByTurn 2 (some .int) :: TB) B.pre
  have hts : ∀ w ∈ TB, w.before _ s = true := fun w h => hts0 w (List.mem_cons_of_mem _ h)
  have hown : s.vm.findClass RX6 = some m.cls := findClass_of_methodNamed B.named
  have hlocks := B.notSynchronized
  subst hsz
  have hD := hD0.self (sz := s.heap.size)
  generalize hAe : va_A [(a1, .inr (2, [.ref a2, .ref a3, .ref a4, .ref a5, .ref a6, .int 0, .int 0, .ref a7, .ref a8, .long 0, .int 0, .int 0, .int 0, .int (-1)])), (a0, .inr (6, [.ref a1, .int 0, .ref a9, .ref a10, .ref a11])), (a9, .inl (k0, 256, .inl f0)), (a10, .inl (k1, 256, .inl f1)), (a11, .inl (k2, 256, .inl f2)), (a2, .inr (0, [.int 0, .int 0, .int 0, .int 0, .int 0, .int 0, .long 0, .ref a12, .ref a13, .ref a14, .ref a15, .ref a16, .ref a17, .ref a18])), (a14, .inr (5, [.ref a19, .int 0]))] s.heap.size = A at hD hC ⊢
  have hA : ∀ q : Nat, s.heap.size ≤ q → A q := fun q h => by rw [← hAe]; exact Or.inr h
  have hl := lv_entry ([.ref a0, .int 0]) (n := 2) (Nat.le_of_ble_eq_true rfl)
  rw [lg_entry_eq]
  generalize (lg_sl ([.ref a0, .int 0]) ++ List.replicate (2 - (lg_sl ([.ref a0, .int 0])).length) Slot.unset).toArray = ls at hl ⊢
  have hl : lv_has ls 2 [(0, .ref a0), (1, .int 0)] := hl
  have hP : va_P (dC, dI) CL [(a1, .inr (2, [.ref a2, .ref a3, .ref a4, .ref a5, .ref a6, .int 0, .int 0, .ref a7, .ref a8, .long 0, .int 0, .int 0, .int 0, .int (-1)])), (a0, .inr (6, [.ref a1, .int 0, .ref a9, .ref a10, .ref a11])), (a9, .inl (k0, 256, .inl f0)), (a10, .inl (k1, 256, .inl f1)), (a11, .inl (k2, 256, .inl f2)), (a2, .inr (0, [.int 0, .int 0, .int 0, .int 0, .int 0, .int 0, .long 0, .ref a12, .ref a13, .ref a14, .ref a15, .ref a16, .ref a17, .ref a18])), (a14, .inr (5, [.ref a19, .int 0]))] s.heap := hP
  obtain ⟨H, hH⟩ : ∃ z, z = s.heap := ⟨_, rfl⟩
  rw [← hH] at hP ⊢
  have hS : va_S A s.heap H [] := by rw [hH]; exact va_S.rf
  refine lv_aload_n hx hb dX6_feesByTurn_0 rfl (lv_at hl 0 rfl) ?_
  have hPc := hP.sub (ws' := [(a1, .inr (2, [.ref a2, .ref a3, .ref a4, .ref a5, .ref a6, .int 0, .int 0, .ref a7, .ref a8, .long 0, .int 0, .int 0, .int 0, .int (-1)])), (a0, .inr (6, [.ref a1, .int 0, .ref a9, .ref a10, .ref a11])), (a9, .inl (k0, 256, .inl f0)), (a10, .inl (k1, 256, .inl f1)), (a11, .inl (k2, 256, .inl f2)), (a2, .inr (0, [.int 0, .int 0, .int 0, .int 0, .int 0, .int 0, .long 0, .ref a12, .ref a13, .ref a14, .ref a15, .ref a16, .ref a17, .ref a18])), (a14, .inr (5, [.ref a19, .int 0]))]) [0, 1, 2, 3, 4, 5, 6] rfl
  have hDc := hD.sub (ws' := [(a1, .inr (2, [.ref a2, .ref a3, .ref a4, .ref a5, .ref a6, .int 0, .int 0, .ref a7, .ref a8, .long 0, .int 0, .int 0, .int 0, .int (-1)])), (a0, .inr (6, [.ref a1, .int 0, .ref a9, .ref a10, .ref a11])), (a9, .inl (k0, 256, .inl f0)), (a10, .inl (k1, 256, .inl f1)), (a11, .inl (k2, 256, .inl f2)), (a2, .inr (0, [.int 0, .int 0, .int 0, .int 0, .int 0, .int 0, .long 0, .ref a12, .ref a13, .ref a14, .ref a15, .ref a16, .ref a17, .ref a18])), (a14, .inr (5, [.ref a19, .int 0]))]) [0, 1, 2, 3, 4, 5, 6] (by decide) rfl
  have hKc := hK.sub (tys' := [(k0, .int), (k1, .int), (k2, .int)]) [0, 1, 2] rfl
  have hFc := va_free (wc := [(a1, .inr (2, [.ref a2, .ref a3, .ref a4, .ref a5, .ref a6, .int 0, .int 0, .ref a7, .ref a8, .long 0, .int 0, .int 0, .int 0, .int (-1)])), (a0, .inr (6, [.ref a1, .int 0, .ref a9, .ref a10, .ref a11])), (a9, .inl (k0, 256, .inl f0)), (a10, .inl (k1, 256, .inl f1)), (a11, .inl (k2, 256, .inl f2)), (a2, .inr (0, [.int 0, .int 0, .int 0, .int 0, .int 0, .int 0, .long 0, .ref a12, .ref a13, .ref a14, .ref a15, .ref a16, .ref a17, .ref a18])), (a14, .inr (5, [.ref a19, .int 0]))]) hD hS hA [0, 1, 2, 3, 4, 5, 6] rfl
  refine va_callv (va_runV (As := []) (rest := []) ⟨hx, hb, hml, hown, hts⟩ (zX6_workOut l dC dI adK adV H.size a0 a1 a2 a3 a4 a5 a6 a7 a8 a9 a10 a11 k0 f0 k1 f1 k2 f2 a12 a13 a14 a15 a16 a17 a18 a19) (cwV 0 hts (tb_V mw_1026 mw_1028 mw_38 mw_113 mw_1029) rfl rfl rfl (by decide +kernel) ⟨Nat.le_of_ble_eq_true rfl, Nat.le_of_ble_eq_true rfl⟩) ⟨XB, va_recv hKc hPc (ci := 6) (q0 := 1) rfl rfl, XQ (av := [.ref a0]) hPc hKc hDc hC hS hFc⟩ rfl rfl hl.1 rfl (lv_room (Nat.le_of_ble_eq_true rfl)) dX6_feesByTurn_1 ⟨Nat.le_of_ble_eq_true rfl, Nat.le_of_ble_eq_true rfl⟩) hS (fun q _ h => hFc q h) hFc (fun u_9 t H1 locs ht hvm hw hB hz1 hk1 hS => ?_)
  try dsimp only at hw
  obtain ⟨hP1, hK1, hD1⟩ := hB
  rw [ht] at hP1
  have hK1 := va_K.moved hvm.symm hK1
  obtain ⟨hP, hD⟩ := va_join (wr := []) (w1 := [(a1, .inr (2, [.ref a2, .ref a3, .ref a4, .ref a5, .ref a6, .int 0, .int 0, .ref a7, .ref a8, .long 0, .int 0, .int 0, .int 0, .int (-1)])), (a0, .inr (6, [.ref a1, .int 1, .ref a9, .ref a10, .ref a11])), (a9, .inl (k0, 256, .inl (upd f0 0 0))), (a10, .inl (k1, 256, .inl (upd f1 0 (-1)))), (a11, .inl (k2, 256, .inl (upd f2 0 0))), (a2, .inr (0, [.int 0, .int 0, .int 0, .int 0, .int 0, .int 0, .long 0, .ref a12, .ref a13, .ref a14, .ref a15, .ref a16, .ref a17, .ref a18])), (a14, .inr (5, [.ref a19, .int 0]))]) hP hD [0, 1, 2, 3, 4, 5, 6] [] rfl rfl (by decide) (by decide) hk1 hFc hP1 hD1
  have hK := (hK.sub (tys' := []) [] rfl).app hK1
  generalize H1 = H at hP hS ⊢
  have hP : va_P (dC, dI) CL [(a1, .inr (2, [.ref a2, .ref a3, .ref a4, .ref a5, .ref a6, .int 0, .int 0, .ref a7, .ref a8, .long 0, .int 0, .int 0, .int 0, .int (-1)])), (a0, .inr (6, [.ref a1, .int 1, .ref a9, .ref a10, .ref a11])), (a9, .inl (k0, 256, .inl (upd f0 0 0))), (a10, .inl (k1, 256, .inl (upd f1 0 (-1)))), (a11, .inl (k2, 256, .inl (upd f2 0 0))), (a2, .inr (0, [.int 0, .int 0, .int 0, .int 0, .int 0, .int 0, .long 0, .ref a12, .ref a13, .ref a14, .ref a15, .ref a16, .ref a17, .ref a18])), (a14, .inr (5, [.ref a19, .int 0]))] H := hP
  have hD : va_D A [(a1, .inr (2, [.ref a2, .ref a3, .ref a4, .ref a5, .ref a6, .int 0, .int 0, .ref a7, .ref a8, .long 0, .int 0, .int 0, .int 0, .int (-1)])), (a0, .inr (6, [.ref a1, .int 1, .ref a9, .ref a10, .ref a11])), (a9, .inl (k0, 256, .inl (upd f0 0 0))), (a10, .inl (k1, 256, .inl (upd f1 0 (-1)))), (a11, .inl (k2, 256, .inl (upd f2 0 0))), (a2, .inr (0, [.int 0, .int 0, .int 0, .int 0, .int 0, .int 0, .long 0, .ref a12, .ref a13, .ref a14, .ref a15, .ref a16, .ref a17, .ref a18])), (a14, .inr (5, [.ref a19, .int 0]))] := hD
  have hK : va_K (dC, dI) CL [(k0, .int), (k1, .int), (k2, .int)] s := hK
  refine lv_aload_n hx hb dX6_feesByTurn_4 rfl (lv_at hl 0 rfl) ?_
  refine va_get (D := (dC, dI)) (ci := 6) (v := .ref a11) (C := RX6) (T := TX6) (N := 5) hx hb hts iwX6 hown hK hP 1 rfl rfl 4 (by decide) (hts _ mw_501) (fun _ h9 => h9) rfl dX6_feesByTurn_5 ?_
  refine lv_iload_n hx hb dX6_feesByTurn_8 rfl (lv_at hl 1 rfl) ?_
  refine x_iald (k := 0) (v := 0) hx hb hK hP 4 2 rfl rfl (by decide) (by decide) (by decide) rfl dX6_feesByTurn_9 ?_
  refine W.widen (k := 0) (n := 0) (Nat.le_of_ble_eq_true rfl) (Nat.le_of_ble_eq_true rfl) ?_
  have hP9 := hP.sub (ws' := [(a1, .inr (2, [.ref a2, .ref a3, .ref a4, .ref a5, .ref a6, .int 0, .int 0, .ref a7, .ref a8, .long 0, .int 0, .int 0, .int 0, .int (-1)])), (a0, .inr (6, [.ref a1, .int 1, .ref a9, .ref a10, .ref a11])), (a9, .inl (k0, 256, .inl (upd f0 0 0))), (a10, .inl (k1, 256, .inl (upd f1 0 (-1)))), (a11, .inl (k2, 256, .inl (upd f2 0 0))), (a2, .inr (0, [.int 0, .int 0, .int 0, .int 0, .int 0, .int 0, .long 0, .ref a12, .ref a13, .ref a14, .ref a15, .ref a16, .ref a17, .ref a18])), (a14, .inr (5, [.ref a19, .int 0]))]) [0, 1, 2, 3, 4, 5, 6] rfl
  have hD9 := hD.sub (ws' := [(a1, .inr (2, [.ref a2, .ref a3, .ref a4, .ref a5, .ref a6, .int 0, .int 0, .ref a7, .ref a8, .long 0, .int 0, .int 0, .int 0, .int (-1)])), (a0, .inr (6, [.ref a1, .int 1, .ref a9, .ref a10, .ref a11])), (a9, .inl (k0, 256, .inl (upd f0 0 0))), (a10, .inl (k1, 256, .inl (upd f1 0 (-1)))), (a11, .inl (k2, 256, .inl (upd f2 0 0))), (a2, .inr (0, [.int 0, .int 0, .int 0, .int 0, .int 0, .int 0, .long 0, .ref a12, .ref a13, .ref a14, .ref a15, .ref a16, .ref a17, .ref a18])), (a14, .inr (5, [.ref a19, .int 0]))]) [0, 1, 2, 3, 4, 5, 6] (by decide) rfl
  have hK9 := hK.sub (tys' := [(k0, .int), (k1, .int), (k2, .int)]) [0, 1, 2] rfl
  exact W.iret (v := 0) hx hb hr (fun t ht hW => ⟨⟨0, (), rfl, rfl, by rw [ht]; exact hP9, va_K.moved hW.alike hK9, hD9⟩, hS.F ht⟩) hS.2.2 dX6_feesByTurn_10
set_option maxHeartbeats 4000000 in
set_option maxRecDepth 100000 in
theorem zX9_byTurn (l : Launch) (dC : Nat → ClassId) (dI : Nat → Nat → Nat) (adK adV : Nat → Nat) (sz : Nat) (a0 : Nat) (p0 : Int32) (a1 : Nat) (a2 : Nat) (a3 : Nat) (a4 : Nat) (a5 : Nat) (a6 : Nat) (a7 : Nat) (a8 : Nat) (a9 : Nat) (a10 : Nat) (a11 : Nat) (a12 : Nat) (a13 : Nat) (a14 : Nat) (a15 : Nat) (a16 : Nat) (a17 : Nat) (a18 : Nat) (a19 : Nat) (a20 : Nat) (a21 : Nat) (a22 : Nat) (a23 : Nat) (a24 : Nat) (a25 : Nat) (k0 : ClassId) (f0 : Nat → Int32) (k1 : ClassId) (f1 : Nat → Int32) (k2 : ClassId) (f2 : Nat → Int32) : Met l yX9_byTurn (Cond.code yX9_byTurn cX9_byTurn 2 (some .int) :: TB) ({ frames := 4, cells := 0, slots := 0, locals := 165 }) (XP (dC, dI) adK adV [.ref a0, .int p0] sz [(a0, .inr (9, [.ref a1, .int 0, .ref a2, .ref a3, .ref a4, .ref a5, .ref a6, .ref a7, .ref a8])), (a2, .inr (0, [.int 0, .int 0, .int 0, .int 0, .int 0, .int 0, .long 0, .ref a9, .ref a10, .ref a11, .ref a12, .ref a13, .ref a14, .ref a15])), (a11, .inr (5, [.ref a16, .int 0])), (a5, .inr (2, [.ref a2, .ref a17, .ref a18, .ref a19, .ref a20, .int 0, .int 0, .ref a21, .ref a22, .long 0, .int 0, .int 0, .int 0, .int (-1)])), (a6, .inr (6, [.ref a5, .int 0, .ref a23, .ref a24, .ref a25])), (a23, .inl (k0, 256, .inl f0)), (a24, .inl (k1, 256, .inl f1)), (a25, .inl (k2, 256, .inl f2))] [(k0, .int), (k1, .int), (k2, .int)]) (va_Qi (fun (r : Int32) (_ : Unit) => r = res_byTurn p0) (fun _ _ => True) (va_A [(a0, .inr (9, [.ref a1, .int 0, .ref a2, .ref a3, .ref a4, .ref a5, .ref a6, .ref a7, .ref a8])), (a2, .inr (0, [.int 0, .int 0, .int 0, .int 0, .int 0, .int 0, .long 0, .ref a9, .ref a10, .ref a11, .ref a12, .ref a13, .ref a14, .ref a15])), (a11, .inr (5, [.ref a16, .int 0])), (a5, .inr (2, [.ref a2, .ref a17, .ref a18, .ref a19, .ref a20, .int 0, .int 0, .ref a21, .ref a22, .long 0, .int 0, .int 0, .int 0, .int (-1)])), (a6, .inr (6, [.ref a5, .int 0, .ref a23, .ref a24, .ref a25])), (a23, .inl (k0, 256, .inl f0)), (a24, .inl (k1, 256, .inl f1)), (a25, .inl (k2, 256, .inl f2))] sz)) 0 0 (va_A [(a0, .inr (9, [.ref a1, .int 0, .ref a2, .ref a3, .ref a4, .ref a5, .ref a6, .ref a7, .ref a8])), (a2, .inr (0, [.int 0, .int 0, .int 0, .int 0, .int 0, .int 0, .long 0, .ref a9, .ref a10, .ref a11, .ref a12, .ref a13, .ref a14, .ref a15])), (a11, .inr (5, [.ref a16, .int 0])), (a5, .inr (2, [.ref a2, .ref a17, .ref a18, .ref a19, .ref a20, .int 0, .int 0, .ref a21, .ref a22, .long 0, .int 0, .int 0, .int 0, .int (-1)])), (a6, .inr (6, [.ref a5, .int 0, .ref a23, .ref a24, .ref a25])), (a23, .inl (k0, 256, .inl f0)), (a24, .inl (k1, 256, .inl f1)), (a25, .inl (k2, 256, .inl f2))] sz) := by
  refine Met.ofW (cc := cX9_byTurn) (maxL := 2) (ret := (some .int)) (by decide) rfl ?_
  intro p e s m args below meth c s₁ B hml hv
  obtain ⟨rfl, hsz, hP, hK, hD0, hC⟩ := hv
  have hx := B.exec
  have hb := B.bytes
  have hr := B.returns
  have hts0 := atoms_spec (ws := Cond.code yX9_byTurn cX9_byTurn 2 (some .int) :: TB) B.pre
  have hts : ∀ w ∈ TB, w.before _ s = true := fun w h => hts0 w (List.mem_cons_of_mem _ h)
  have hown : s.vm.findClass RX9 = some m.cls := findClass_of_methodNamed B.named
  have hlocks := B.notSynchronized
  subst hsz
  have hD := hD0.self (sz := s.heap.size)
  generalize hAe : va_A [(a0, .inr (9, [.ref a1, .int 0, .ref a2, .ref a3, .ref a4, .ref a5, .ref a6, .ref a7, .ref a8])), (a2, .inr (0, [.int 0, .int 0, .int 0, .int 0, .int 0, .int 0, .long 0, .ref a9, .ref a10, .ref a11, .ref a12, .ref a13, .ref a14, .ref a15])), (a11, .inr (5, [.ref a16, .int 0])), (a5, .inr (2, [.ref a2, .ref a17, .ref a18, .ref a19, .ref a20, .int 0, .int 0, .ref a21, .ref a22, .long 0, .int 0, .int 0, .int 0, .int (-1)])), (a6, .inr (6, [.ref a5, .int 0, .ref a23, .ref a24, .ref a25])), (a23, .inl (k0, 256, .inl f0)), (a24, .inl (k1, 256, .inl f1)), (a25, .inl (k2, 256, .inl f2))] s.heap.size = A at hD hC ⊢
  have hA : ∀ q : Nat, s.heap.size ≤ q → A q := fun q h => by rw [← hAe]; exact Or.inr h
  have hl := lv_entry ([.ref a0, .int p0]) (n := 2) (Nat.le_of_ble_eq_true rfl)
  rw [lg_entry_eq]
  generalize (lg_sl ([.ref a0, .int p0]) ++ List.replicate (2 - (lg_sl ([.ref a0, .int p0])).length) Slot.unset).toArray = ls at hl ⊢
  have hl : lv_has ls 2 [(0, .ref a0), (1, .int p0)] := hl
  have hP : va_P (dC, dI) CL [(a0, .inr (9, [.ref a1, .int 0, .ref a2, .ref a3, .ref a4, .ref a5, .ref a6, .ref a7, .ref a8])), (a2, .inr (0, [.int 0, .int 0, .int 0, .int 0, .int 0, .int 0, .long 0, .ref a9, .ref a10, .ref a11, .ref a12, .ref a13, .ref a14, .ref a15])), (a11, .inr (5, [.ref a16, .int 0])), (a5, .inr (2, [.ref a2, .ref a17, .ref a18, .ref a19, .ref a20, .int 0, .int 0, .ref a21, .ref a22, .long 0, .int 0, .int 0, .int 0, .int (-1)])), (a6, .inr (6, [.ref a5, .int 0, .ref a23, .ref a24, .ref a25])), (a23, .inl (k0, 256, .inl f0)), (a24, .inl (k1, 256, .inl f1)), (a25, .inl (k2, 256, .inl f2))] s.heap := hP
  obtain ⟨H, hH⟩ : ∃ z, z = s.heap := ⟨_, rfl⟩
  rw [← hH] at hP ⊢
  have hS : va_S A s.heap H [] := by rw [hH]; exact va_S.rf
  refine lv_aload_n hx hb dX9_byTurn_0 rfl (lv_at hl 0 rfl) ?_
  refine va_get (D := (dC, dI)) (ci := 9) (v := .ref a2) (C := RX9) (T := TX9) (N := 9) hx hb hts iwX9 hown hK hP 0 rfl rfl 2 (by decide) (hts _ mw_558) (fun _ h9 => h9) rfl dX9_byTurn_1 ?_
  refine lv_iload_n hx hb dX9_byTurn_4 rfl (lv_at hl 1 rfl) ?_
  have hPc := hP.sub (ws' := [(a2, .inr (0, [.int 0, .int 0, .int 0, .int 0, .int 0, .int 0, .long 0, .ref a9, .ref a10, .ref a11, .ref a12, .ref a13, .ref a14, .ref a15])), (a11, .inr (5, [.ref a16, .int 0]))]) [1, 2] rfl
  have hDc := hD.sub (ws' := [(a2, .inr (0, [.int 0, .int 0, .int 0, .int 0, .int 0, .int 0, .long 0, .ref a9, .ref a10, .ref a11, .ref a12, .ref a13, .ref a14, .ref a15])), (a11, .inr (5, [.ref a16, .int 0]))]) [1, 2] (by decide) rfl
  have hKc := hK.sub (tys' := []) [] rfl
  have hFc := va_free (wc := [(a2, .inr (0, [.int 0, .int 0, .int 0, .int 0, .int 0, .int 0, .long 0, .ref a9, .ref a10, .ref a11, .ref a12, .ref a13, .ref a14, .ref a15])), (a11, .inr (5, [.ref a16, .int 0]))]) hD hS hA [1, 2] rfl
  refine va_calli (va_runV (As := [.int p0]) (rest := []) ⟨hx, hb, hml, hown, hts⟩ (zX0_hasDeeds l dC dI adK adV H.size a2 p0 a9 a10 a11 a12 a13 a14 a15 a16) (cwV 1 hts (tb_V mw_1018 mw_1019 mw_1020 mw_100 mw_1021) rfl rfl rfl (by decide +kernel) ⟨Nat.le_of_ble_eq_true rfl, Nat.le_of_ble_eq_true rfl⟩) ⟨XB, va_recv hKc hPc (ci := 0) (q0 := 0) rfl rfl, XQ (av := [.ref a2, .int p0]) hPc hKc hDc hC hS hFc⟩ rfl rfl hl.1 rfl (lv_room (Nat.le_of_ble_eq_true rfl)) dX9_byTurn_5 ⟨Nat.le_of_ble_eq_true rfl, Nat.le_of_ble_eq_true rfl⟩) hS (fun q _ h => hFc q h) hFc (fun r_1 u_9 t H1 locs ht hvm hw hB hz1 hk1 hS => ?_)
  try dsimp only at hw
  obtain ⟨hP1, hK1, hD1⟩ := hB
  rw [ht] at hP1
  have hK1 := va_K.moved hvm.symm hK1
  obtain ⟨hP, hD⟩ := va_join (wr := [(a0, .inr (9, [.ref a1, .int 0, .ref a2, .ref a3, .ref a4, .ref a5, .ref a6, .ref a7, .ref a8])), (a5, .inr (2, [.ref a2, .ref a17, .ref a18, .ref a19, .ref a20, .int 0, .int 0, .ref a21, .ref a22, .long 0, .int 0, .int 0, .int 0, .int (-1)])), (a6, .inr (6, [.ref a5, .int 0, .ref a23, .ref a24, .ref a25])), (a23, .inl (k0, 256, .inl f0)), (a24, .inl (k1, 256, .inl f1)), (a25, .inl (k2, 256, .inl f2))]) (w1 := [(a2, .inr (0, [.int 0, .int 0, .int 0, .int 0, .int 0, .int 0, .long 0, .ref a9, .ref a10, .ref a11, .ref a12, .ref a13, .ref a14, .ref a15])), (a11, .inr (5, [.ref a16, .int 0]))]) hP hD [1, 2] [0, 3, 4, 5, 6, 7] rfl rfl (by decide) (by decide) hk1 hFc hP1 hD1
  have hK := (hK.sub (tys' := [(k0, .int), (k1, .int), (k2, .int)]) [0, 1, 2] rfl).app hK1
  generalize H1 = H at hP hS ⊢
  have hP : va_P (dC, dI) CL [(a0, .inr (9, [.ref a1, .int 0, .ref a2, .ref a3, .ref a4, .ref a5, .ref a6, .ref a7, .ref a8])), (a5, .inr (2, [.ref a2, .ref a17, .ref a18, .ref a19, .ref a20, .int 0, .int 0, .ref a21, .ref a22, .long 0, .int 0, .int 0, .int 0, .int (-1)])), (a6, .inr (6, [.ref a5, .int 0, .ref a23, .ref a24, .ref a25])), (a23, .inl (k0, 256, .inl f0)), (a24, .inl (k1, 256, .inl f1)), (a25, .inl (k2, 256, .inl f2)), (a2, .inr (0, [.int 0, .int 0, .int 0, .int 0, .int 0, .int 0, .long 0, .ref a9, .ref a10, .ref a11, .ref a12, .ref a13, .ref a14, .ref a15])), (a11, .inr (5, [.ref a16, .int 0]))] H := hP
  have hD : va_D A [(a0, .inr (9, [.ref a1, .int 0, .ref a2, .ref a3, .ref a4, .ref a5, .ref a6, .ref a7, .ref a8])), (a5, .inr (2, [.ref a2, .ref a17, .ref a18, .ref a19, .ref a20, .int 0, .int 0, .ref a21, .ref a22, .long 0, .int 0, .int 0, .int 0, .int (-1)])), (a6, .inr (6, [.ref a5, .int 0, .ref a23, .ref a24, .ref a25])), (a23, .inl (k0, 256, .inl f0)), (a24, .inl (k1, 256, .inl f1)), (a25, .inl (k2, 256, .inl f2)), (a2, .inr (0, [.int 0, .int 0, .int 0, .int 0, .int 0, .int 0, .long 0, .ref a9, .ref a10, .ref a11, .ref a12, .ref a13, .ref a14, .ref a15])), (a11, .inr (5, [.ref a16, .int 0]))] := hD
  have hK : va_K (dC, dI) CL [(k0, .int), (k1, .int), (k2, .int)] s := hK
  rcases hw with ⟨hw, h_2⟩ | ⟨hw, h_3, h_4⟩ | ⟨hw, h_5⟩
  · subst hw
    refine lv_if_eq (tgt := 22) hx hb dX9_byTurn_8 (by decide) (fun _ => ?_) (fun h => (h (by decide)).elim)
    refine lv_iconst (v := (-1)) hx hb dX9_byTurn_22 (by decide) ?_
    refine W.widen (k := 0) (n := 0) (Nat.le_of_ble_eq_true rfl) (Nat.le_of_ble_eq_true rfl) ?_
    exact W.iret (v := (-1)) hx hb hr (fun t ht hW => ⟨⟨(-1), (), rfl, (by first | decide | exact (if_pos (by have kh_2 := lt_i h_2; simp only [xi_0] at kh_2; omega)).symm | exact (if_neg (by have kh_2 := lt_i h_2; simp only [xi_0] at kh_2; omega)).symm), trivial⟩, hS.F ht⟩) hS.2.2 dX9_byTurn_23
  · subst hw
    refine lv_if_eq (tgt := 22) hx hb dX9_byTurn_8 (by decide) (fun _ => ?_) (fun h => (h (by decide)).elim)
    refine lv_iconst (v := (-1)) hx hb dX9_byTurn_22 (by decide) ?_
    refine W.widen (k := 0) (n := 0) (Nat.le_of_ble_eq_true rfl) (Nat.le_of_ble_eq_true rfl) ?_
    exact W.iret (v := (-1)) hx hb hr (fun t ht hW => ⟨⟨(-1), (), rfl, (by first | decide | exact (if_pos (by have kh_3 := nlt_i h_3; have kh_4 := le_i h_4; simp only [xi_0, xi_1] at kh_3 kh_4; omega)).symm | exact (if_neg (by have kh_3 := nlt_i h_3; have kh_4 := le_i h_4; simp only [xi_0, xi_1] at kh_3 kh_4; omega)).symm), trivial⟩, hS.F ht⟩) hS.2.2 dX9_byTurn_23
  · subst hw
    obtain rfl : p0 = 0 := Int32.toInt_inj.mp (by rw [xi_0]; have kh_5 := eq_i h_5; simp only [xi_0] at kh_5; omega)
    refine lv_if_eq (tgt := 22) hx hb dX9_byTurn_8 (by decide) (fun h => absurd h (by decide)) (fun _ => ?_)
    refine lv_aload_n hx hb dX9_byTurn_11 rfl (lv_at hl 0 rfl) ?_
    refine va_get (D := (dC, dI)) (ci := 9) (v := .ref a6) (C := RX9) (T := TX9) (N := 9) hx hb hts iwX9 hown hK hP 0 rfl rfl 6 (by decide) (hts _ mw_562) (fun _ h9 => h9) rfl dX9_byTurn_12 ?_
    refine lv_iload_n hx hb dX9_byTurn_15 rfl (lv_at hl 1 rfl) ?_
    have hPc := hP.sub (ws' := [(a5, .inr (2, [.ref a2, .ref a17, .ref a18, .ref a19, .ref a20, .int 0, .int 0, .ref a21, .ref a22, .long 0, .int 0, .int 0, .int 0, .int (-1)])), (a6, .inr (6, [.ref a5, .int 0, .ref a23, .ref a24, .ref a25])), (a23, .inl (k0, 256, .inl f0)), (a24, .inl (k1, 256, .inl f1)), (a25, .inl (k2, 256, .inl f2)), (a2, .inr (0, [.int 0, .int 0, .int 0, .int 0, .int 0, .int 0, .long 0, .ref a9, .ref a10, .ref a11, .ref a12, .ref a13, .ref a14, .ref a15])), (a11, .inr (5, [.ref a16, .int 0]))]) [1, 2, 3, 4, 5, 6, 7] rfl
    have hDc := hD.sub (ws' := [(a5, .inr (2, [.ref a2, .ref a17, .ref a18, .ref a19, .ref a20, .int 0, .int 0, .ref a21, .ref a22, .long 0, .int 0, .int 0, .int 0, .int (-1)])), (a6, .inr (6, [.ref a5, .int 0, .ref a23, .ref a24, .ref a25])), (a23, .inl (k0, 256, .inl f0)), (a24, .inl (k1, 256, .inl f1)), (a25, .inl (k2, 256, .inl f2)), (a2, .inr (0, [.int 0, .int 0, .int 0, .int 0, .int 0, .int 0, .long 0, .ref a9, .ref a10, .ref a11, .ref a12, .ref a13, .ref a14, .ref a15])), (a11, .inr (5, [.ref a16, .int 0]))]) [1, 2, 3, 4, 5, 6, 7] (by decide) rfl
    have hKc := hK.sub (tys' := [(k0, .int), (k1, .int), (k2, .int)]) [0, 1, 2] rfl
    have hFc := va_free (wc := [(a5, .inr (2, [.ref a2, .ref a17, .ref a18, .ref a19, .ref a20, .int 0, .int 0, .ref a21, .ref a22, .long 0, .int 0, .int 0, .int 0, .int (-1)])), (a6, .inr (6, [.ref a5, .int 0, .ref a23, .ref a24, .ref a25])), (a23, .inl (k0, 256, .inl f0)), (a24, .inl (k1, 256, .inl f1)), (a25, .inl (k2, 256, .inl f2)), (a2, .inr (0, [.int 0, .int 0, .int 0, .int 0, .int 0, .int 0, .long 0, .ref a9, .ref a10, .ref a11, .ref a12, .ref a13, .ref a14, .ref a15])), (a11, .inr (5, [.ref a16, .int 0]))]) hD hS hA [1, 2, 3, 4, 5, 6, 7] rfl
    refine va_calli (va_runV (As := [.int 0]) (rest := []) ⟨hx, hb, hml, hown, hts⟩ (zX6_feesByTurn l dC dI adK adV H.size a6 a5 a2 a17 a18 a19 a20 a21 a22 a23 a24 a25 k0 f0 k1 f1 k2 f2 a9 a10 a11 a12 a13 a14 a15 a16) (cwV 1 hts (tb_V mw_1022 mw_1023 mw_1024 mw_113 mw_1025) rfl rfl rfl (by decide +kernel) ⟨Nat.le_of_ble_eq_true rfl, Nat.le_of_ble_eq_true rfl⟩) ⟨XB, va_recv hKc hPc (ci := 6) (q0 := 1) rfl rfl, XQ (av := [.ref a6, .int 0]) hPc hKc hDc hC hS hFc⟩ rfl rfl hl.1 rfl (lv_room (Nat.le_of_ble_eq_true rfl)) dX9_byTurn_16 ⟨Nat.le_of_ble_eq_true rfl, Nat.le_of_ble_eq_true rfl⟩) hS (fun q _ h => hFc q h) hFc (fun r_6 u_9 t H1 locs ht hvm hw hB hz1 hk1 hS => ?_)
    try dsimp only at hw
    obtain ⟨hP1, hK1, hD1⟩ := hB
    rw [ht] at hP1
    have hK1 := va_K.moved hvm.symm hK1
    obtain ⟨hP, hD⟩ := va_join (wr := [(a0, .inr (9, [.ref a1, .int 0, .ref a2, .ref a3, .ref a4, .ref a5, .ref a6, .ref a7, .ref a8]))]) (w1 := [(a5, .inr (2, [.ref a2, .ref a17, .ref a18, .ref a19, .ref a20, .int 0, .int 0, .ref a21, .ref a22, .long 0, .int 0, .int 0, .int 0, .int (-1)])), (a6, .inr (6, [.ref a5, .int 1, .ref a23, .ref a24, .ref a25])), (a23, .inl (k0, 256, .inl (upd f0 0 0))), (a24, .inl (k1, 256, .inl (upd f1 0 (-1)))), (a25, .inl (k2, 256, .inl (upd f2 0 0))), (a2, .inr (0, [.int 0, .int 0, .int 0, .int 0, .int 0, .int 0, .long 0, .ref a9, .ref a10, .ref a11, .ref a12, .ref a13, .ref a14, .ref a15])), (a11, .inr (5, [.ref a16, .int 0]))]) hP hD [1, 2, 3, 4, 5, 6, 7] [0] rfl rfl (by decide) (by decide) hk1 hFc hP1 hD1
    have hK := (hK.sub (tys' := []) [] rfl).app hK1
    generalize H1 = H at hP hS ⊢
    have hP : va_P (dC, dI) CL [(a0, .inr (9, [.ref a1, .int 0, .ref a2, .ref a3, .ref a4, .ref a5, .ref a6, .ref a7, .ref a8])), (a5, .inr (2, [.ref a2, .ref a17, .ref a18, .ref a19, .ref a20, .int 0, .int 0, .ref a21, .ref a22, .long 0, .int 0, .int 0, .int 0, .int (-1)])), (a6, .inr (6, [.ref a5, .int 1, .ref a23, .ref a24, .ref a25])), (a23, .inl (k0, 256, .inl (upd f0 0 0))), (a24, .inl (k1, 256, .inl (upd f1 0 (-1)))), (a25, .inl (k2, 256, .inl (upd f2 0 0))), (a2, .inr (0, [.int 0, .int 0, .int 0, .int 0, .int 0, .int 0, .long 0, .ref a9, .ref a10, .ref a11, .ref a12, .ref a13, .ref a14, .ref a15])), (a11, .inr (5, [.ref a16, .int 0]))] H := hP
    have hD : va_D A [(a0, .inr (9, [.ref a1, .int 0, .ref a2, .ref a3, .ref a4, .ref a5, .ref a6, .ref a7, .ref a8])), (a5, .inr (2, [.ref a2, .ref a17, .ref a18, .ref a19, .ref a20, .int 0, .int 0, .ref a21, .ref a22, .long 0, .int 0, .int 0, .int 0, .int (-1)])), (a6, .inr (6, [.ref a5, .int 1, .ref a23, .ref a24, .ref a25])), (a23, .inl (k0, 256, .inl (upd f0 0 0))), (a24, .inl (k1, 256, .inl (upd f1 0 (-1)))), (a25, .inl (k2, 256, .inl (upd f2 0 0))), (a2, .inr (0, [.int 0, .int 0, .int 0, .int 0, .int 0, .int 0, .long 0, .ref a9, .ref a10, .ref a11, .ref a12, .ref a13, .ref a14, .ref a15])), (a11, .inr (5, [.ref a16, .int 0]))] := hD
    have hK : va_K (dC, dI) CL [(k0, .int), (k1, .int), (k2, .int)] s := hK
    subst hw
    refine lv_goto (tgt := 23) hx hb dX9_byTurn_19 (by decide) ?_
    refine W.widen (k := 0) (n := 0) (Nat.le_of_ble_eq_true rfl) (Nat.le_of_ble_eq_true rfl) ?_
    exact W.iret (v := 0) hx hb hr (fun t ht hW => ⟨⟨0, (), rfl, (by first | decide | exact (if_pos (by omega)).symm | exact (if_neg (by omega)).symm), trivial⟩, hS.F ht⟩) hS.2.2 dX9_byTurn_23
set_option maxHeartbeats 4000000 in
set_option maxRecDepth 100000 in
theorem zX9_parted (l : Launch) (dC : Nat → ClassId) (dI : Nat → Nat → Nat) (adK adV : Nat → Nat) (sz : Nat) (a0 : Nat) (p0 : Int32) (p1 : Int32) (a1 : Nat) (a2 : Nat) (a3 : Nat) (a4 : Nat) (a5 : Nat) (a6 : Nat) (a7 : Nat) (a8 : Nat) (a9 : Nat) (a10 : Nat) (a11 : Nat) (a12 : Nat) (a13 : Nat) (a14 : Nat) (a15 : Nat) (a16 : Nat) : Met l yX9_parted (Cond.code yX9_parted cX9_parted 3 (some .int) :: TB) ({ frames := 2, cells := 0, slots := 0, locals := 121 }) (XP (dC, dI) adK adV [.ref a0, .int p0, .int p1] sz [(a0, .inr (9, [.ref a1, .int 0, .ref a2, .ref a3, .ref a4, .ref a5, .ref a6, .ref a7, .ref a8])), (a2, .inr (0, [.int 0, .int 0, .int 0, .int 0, .int 0, .int 0, .long 0, .ref a9, .ref a10, .ref a11, .ref a12, .ref a13, .ref a14, .ref a15])), (a11, .inr (5, [.ref a16, .int 0]))] []) (va_Qi (fun (r : Int32) (_ : Unit) => r = (-1)) (fun _ _ => True) (va_A [(a0, .inr (9, [.ref a1, .int 0, .ref a2, .ref a3, .ref a4, .ref a5, .ref a6, .ref a7, .ref a8])), (a2, .inr (0, [.int 0, .int 0, .int 0, .int 0, .int 0, .int 0, .long 0, .ref a9, .ref a10, .ref a11, .ref a12, .ref a13, .ref a14, .ref a15])), (a11, .inr (5, [.ref a16, .int 0]))] sz)) 0 0 (va_A [(a0, .inr (9, [.ref a1, .int 0, .ref a2, .ref a3, .ref a4, .ref a5, .ref a6, .ref a7, .ref a8])), (a2, .inr (0, [.int 0, .int 0, .int 0, .int 0, .int 0, .int 0, .long 0, .ref a9, .ref a10, .ref a11, .ref a12, .ref a13, .ref a14, .ref a15])), (a11, .inr (5, [.ref a16, .int 0]))] sz) := by
  refine Met.ofW (cc := cX9_parted) (maxL := 3) (ret := (some .int)) (by decide) rfl ?_
  intro p e s m args below meth c s₁ B hml hv
  obtain ⟨rfl, hsz, hP, hK, hD0, hC⟩ := hv
  have hx := B.exec
  have hb := B.bytes
  have hr := B.returns
  have hts0 := atoms_spec (ws := Cond.code yX9_parted cX9_parted 3 (some .int) :: TB) B.pre
  have hts : ∀ w ∈ TB, w.before _ s = true := fun w h => hts0 w (List.mem_cons_of_mem _ h)
  have hown : s.vm.findClass RX9 = some m.cls := findClass_of_methodNamed B.named
  have hlocks := B.notSynchronized
  subst hsz
  have hD := hD0.self (sz := s.heap.size)
  generalize hAe : va_A [(a0, .inr (9, [.ref a1, .int 0, .ref a2, .ref a3, .ref a4, .ref a5, .ref a6, .ref a7, .ref a8])), (a2, .inr (0, [.int 0, .int 0, .int 0, .int 0, .int 0, .int 0, .long 0, .ref a9, .ref a10, .ref a11, .ref a12, .ref a13, .ref a14, .ref a15])), (a11, .inr (5, [.ref a16, .int 0]))] s.heap.size = A at hD hC ⊢
  have hA : ∀ q : Nat, s.heap.size ≤ q → A q := fun q h => by rw [← hAe]; exact Or.inr h
  have hl := lv_entry ([.ref a0, .int p0, .int p1]) (n := 3) (Nat.le_of_ble_eq_true rfl)
  rw [lg_entry_eq]
  generalize (lg_sl ([.ref a0, .int p0, .int p1]) ++ List.replicate (3 - (lg_sl ([.ref a0, .int p0, .int p1])).length) Slot.unset).toArray = ls at hl ⊢
  have hl : lv_has ls 3 [(0, .ref a0), (1, .int p0), (2, .int p1)] := hl
  have hP : va_P (dC, dI) CL [(a0, .inr (9, [.ref a1, .int 0, .ref a2, .ref a3, .ref a4, .ref a5, .ref a6, .ref a7, .ref a8])), (a2, .inr (0, [.int 0, .int 0, .int 0, .int 0, .int 0, .int 0, .long 0, .ref a9, .ref a10, .ref a11, .ref a12, .ref a13, .ref a14, .ref a15])), (a11, .inr (5, [.ref a16, .int 0]))] s.heap := hP
  obtain ⟨H, hH⟩ : ∃ z, z = s.heap := ⟨_, rfl⟩
  rw [← hH] at hP ⊢
  have hS : va_S A s.heap H [] := by rw [hH]; exact va_S.rf
  refine lv_aload_n hx hb dX9_parted_0 rfl (lv_at hl 0 rfl) ?_
  refine va_get (D := (dC, dI)) (ci := 9) (v := .ref a2) (C := RX9) (T := TX9) (N := 9) hx hb hts iwX9 hown hK hP 0 rfl rfl 2 (by decide) (hts _ mw_558) (fun _ h9 => h9) rfl dX9_parted_1 ?_
  refine lv_iload_n hx hb dX9_parted_4 rfl (lv_at hl 1 rfl) ?_
  have hPc := hP.sub (ws' := [(a2, .inr (0, [.int 0, .int 0, .int 0, .int 0, .int 0, .int 0, .long 0, .ref a9, .ref a10, .ref a11, .ref a12, .ref a13, .ref a14, .ref a15])), (a11, .inr (5, [.ref a16, .int 0]))]) [1, 2] rfl
  have hDc := hD.sub (ws' := [(a2, .inr (0, [.int 0, .int 0, .int 0, .int 0, .int 0, .int 0, .long 0, .ref a9, .ref a10, .ref a11, .ref a12, .ref a13, .ref a14, .ref a15])), (a11, .inr (5, [.ref a16, .int 0]))]) [1, 2] (by decide) rfl
  have hKc := hK.sub (tys' := []) [] rfl
  have hFc := va_free (wc := [(a2, .inr (0, [.int 0, .int 0, .int 0, .int 0, .int 0, .int 0, .long 0, .ref a9, .ref a10, .ref a11, .ref a12, .ref a13, .ref a14, .ref a15])), (a11, .inr (5, [.ref a16, .int 0]))]) hD hS hA [1, 2] rfl
  refine va_calli (va_runV (As := [.int p0]) (rest := []) ⟨hx, hb, hml, hown, hts⟩ (zX0_hasDeed l dC dI adK adV H.size a2 p0 a9 a10 a11 a12 a13 a14 a15 a16) (cwV 1 hts (tb_V mw_880 mw_881 mw_882 mw_100 mw_883) rfl rfl rfl (by decide +kernel) ⟨Nat.le_of_ble_eq_true rfl, Nat.le_of_ble_eq_true rfl⟩) ⟨XB, va_recv hKc hPc (ci := 0) (q0 := 0) rfl rfl, XQ (av := [.ref a2, .int p0]) hPc hKc hDc hC hS hFc⟩ rfl rfl hl.1 rfl (lv_room (Nat.le_of_ble_eq_true rfl)) dX9_parted_5 ⟨Nat.le_of_ble_eq_true rfl, Nat.le_of_ble_eq_true rfl⟩) hS (fun q _ h => hFc q h) hFc (fun r_1 u_9 t H1 locs ht hvm hw hB hz1 hk1 hS => ?_)
  try dsimp only at hw
  obtain ⟨hP1, hK1, hD1⟩ := hB
  rw [ht] at hP1
  have hK1 := va_K.moved hvm.symm hK1
  obtain ⟨hP, hD⟩ := va_join (wr := [(a0, .inr (9, [.ref a1, .int 0, .ref a2, .ref a3, .ref a4, .ref a5, .ref a6, .ref a7, .ref a8]))]) (w1 := [(a2, .inr (0, [.int 0, .int 0, .int 0, .int 0, .int 0, .int 0, .long 0, .ref a9, .ref a10, .ref a11, .ref a12, .ref a13, .ref a14, .ref a15])), (a11, .inr (5, [.ref a16, .int 0]))]) hP hD [1, 2] [0] rfl rfl (by decide) (by decide) hk1 hFc hP1 hD1
  have hK := (hK.sub (tys' := []) [] rfl).app hK1
  generalize H1 = H at hP hS ⊢
  have hP : va_P (dC, dI) CL [(a0, .inr (9, [.ref a1, .int 0, .ref a2, .ref a3, .ref a4, .ref a5, .ref a6, .ref a7, .ref a8])), (a2, .inr (0, [.int 0, .int 0, .int 0, .int 0, .int 0, .int 0, .long 0, .ref a9, .ref a10, .ref a11, .ref a12, .ref a13, .ref a14, .ref a15])), (a11, .inr (5, [.ref a16, .int 0]))] H := hP
  have hD : va_D A [(a0, .inr (9, [.ref a1, .int 0, .ref a2, .ref a3, .ref a4, .ref a5, .ref a6, .ref a7, .ref a8])), (a2, .inr (0, [.int 0, .int 0, .int 0, .int 0, .int 0, .int 0, .long 0, .ref a9, .ref a10, .ref a11, .ref a12, .ref a13, .ref a14, .ref a15])), (a11, .inr (5, [.ref a16, .int 0]))] := hD
  have hK : va_K (dC, dI) CL [] s := hK
  subst hw
  refine lv_if_eq (tgt := 22) hx hb dX9_parted_8 (by decide) (fun _ => ?_) (fun h => (h (by decide)).elim)
  refine lv_iconst (v := (-1)) hx hb dX9_parted_22 (by decide) ?_
  refine W.widen (k := 0) (n := 0) (Nat.le_of_ble_eq_true rfl) (Nat.le_of_ble_eq_true rfl) ?_
  exact W.iret (v := (-1)) hx hb hr (fun t ht hW => ⟨⟨(-1), (), rfl, rfl, trivial⟩, hS.F ht⟩) hS.2.2 dX9_parted_23
set_option maxHeartbeats 4000000 in
set_option maxRecDepth 100000 in
theorem zX9_parts (l : Launch) (dC : Nat → ClassId) (dI : Nat → Nat → Nat) (adK adV : Nat → Nat) (sz : Nat) (a0 : Nat) (p0 : Int32) (p1 : Int32) (p2 : Int32) (a1 : Nat) (a2 : Nat) (a3 : Nat) (a4 : Nat) (a5 : Nat) (a6 : Nat) (a7 : Nat) (a8 : Nat) (a9 : Nat) (a10 : Nat) (a11 : Nat) (a12 : Nat) (a13 : Nat) (a14 : Nat) (a15 : Nat) (a16 : Nat) : Met l yX9_parts (Cond.code yX9_parts cX9_parts 4 (some .int) :: TB) ({ frames := 2, cells := 0, slots := 0, locals := 121 }) (XP (dC, dI) adK adV [.ref a0, .int p0, .int p1, .int p2] sz [(a0, .inr (9, [.ref a1, .int 0, .ref a2, .ref a3, .ref a4, .ref a5, .ref a6, .ref a7, .ref a8])), (a2, .inr (0, [.int 0, .int 0, .int 0, .int 0, .int 0, .int 0, .long 0, .ref a9, .ref a10, .ref a11, .ref a12, .ref a13, .ref a14, .ref a15])), (a12, .inr (5, [.ref a16, .int 0]))] []) (va_Qi (fun (r : Int32) (_ : Unit) => r = (-1)) (fun _ _ => True) (va_A [(a0, .inr (9, [.ref a1, .int 0, .ref a2, .ref a3, .ref a4, .ref a5, .ref a6, .ref a7, .ref a8])), (a2, .inr (0, [.int 0, .int 0, .int 0, .int 0, .int 0, .int 0, .long 0, .ref a9, .ref a10, .ref a11, .ref a12, .ref a13, .ref a14, .ref a15])), (a12, .inr (5, [.ref a16, .int 0]))] sz)) 0 0 (va_A [(a0, .inr (9, [.ref a1, .int 0, .ref a2, .ref a3, .ref a4, .ref a5, .ref a6, .ref a7, .ref a8])), (a2, .inr (0, [.int 0, .int 0, .int 0, .int 0, .int 0, .int 0, .long 0, .ref a9, .ref a10, .ref a11, .ref a12, .ref a13, .ref a14, .ref a15])), (a12, .inr (5, [.ref a16, .int 0]))] sz) := by
  refine Met.ofW (cc := cX9_parts) (maxL := 4) (ret := (some .int)) (by decide) rfl ?_
  intro p e s m args below meth c s₁ B hml hv
  obtain ⟨rfl, hsz, hP, hK, hD0, hC⟩ := hv
  have hx := B.exec
  have hb := B.bytes
  have hr := B.returns
  have hts0 := atoms_spec (ws := Cond.code yX9_parts cX9_parts 4 (some .int) :: TB) B.pre
  have hts : ∀ w ∈ TB, w.before _ s = true := fun w h => hts0 w (List.mem_cons_of_mem _ h)
  have hown : s.vm.findClass RX9 = some m.cls := findClass_of_methodNamed B.named
  have hlocks := B.notSynchronized
  subst hsz
  have hD := hD0.self (sz := s.heap.size)
  generalize hAe : va_A [(a0, .inr (9, [.ref a1, .int 0, .ref a2, .ref a3, .ref a4, .ref a5, .ref a6, .ref a7, .ref a8])), (a2, .inr (0, [.int 0, .int 0, .int 0, .int 0, .int 0, .int 0, .long 0, .ref a9, .ref a10, .ref a11, .ref a12, .ref a13, .ref a14, .ref a15])), (a12, .inr (5, [.ref a16, .int 0]))] s.heap.size = A at hD hC ⊢
  have hA : ∀ q : Nat, s.heap.size ≤ q → A q := fun q h => by rw [← hAe]; exact Or.inr h
  have hl := lv_entry ([.ref a0, .int p0, .int p1, .int p2]) (n := 4) (Nat.le_of_ble_eq_true rfl)
  rw [lg_entry_eq]
  generalize (lg_sl ([.ref a0, .int p0, .int p1, .int p2]) ++ List.replicate (4 - (lg_sl ([.ref a0, .int p0, .int p1, .int p2])).length) Slot.unset).toArray = ls at hl ⊢
  have hl : lv_has ls 4 [(0, .ref a0), (1, .int p0), (2, .int p1), (3, .int p2)] := hl
  have hP : va_P (dC, dI) CL [(a0, .inr (9, [.ref a1, .int 0, .ref a2, .ref a3, .ref a4, .ref a5, .ref a6, .ref a7, .ref a8])), (a2, .inr (0, [.int 0, .int 0, .int 0, .int 0, .int 0, .int 0, .long 0, .ref a9, .ref a10, .ref a11, .ref a12, .ref a13, .ref a14, .ref a15])), (a12, .inr (5, [.ref a16, .int 0]))] s.heap := hP
  obtain ⟨H, hH⟩ : ∃ z, z = s.heap := ⟨_, rfl⟩
  rw [← hH] at hP ⊢
  have hS : va_S A s.heap H [] := by rw [hH]; exact va_S.rf
  refine lv_aload_n hx hb dX9_parts_0 rfl (lv_at hl 0 rfl) ?_
  refine va_get (D := (dC, dI)) (ci := 9) (v := .ref a2) (C := RX9) (T := TX9) (N := 9) hx hb hts iwX9 hown hK hP 0 rfl rfl 2 (by decide) (hts _ mw_558) (fun _ h9 => h9) rfl dX9_parts_1 ?_
  refine lv_iload_n hx hb dX9_parts_4 rfl (lv_at hl 1 rfl) ?_
  have hPc := hP.sub (ws' := [(a2, .inr (0, [.int 0, .int 0, .int 0, .int 0, .int 0, .int 0, .long 0, .ref a9, .ref a10, .ref a11, .ref a12, .ref a13, .ref a14, .ref a15])), (a12, .inr (5, [.ref a16, .int 0]))]) [1, 2] rfl
  have hDc := hD.sub (ws' := [(a2, .inr (0, [.int 0, .int 0, .int 0, .int 0, .int 0, .int 0, .long 0, .ref a9, .ref a10, .ref a11, .ref a12, .ref a13, .ref a14, .ref a15])), (a12, .inr (5, [.ref a16, .int 0]))]) [1, 2] (by decide) rfl
  have hKc := hK.sub (tys' := []) [] rfl
  have hFc := va_free (wc := [(a2, .inr (0, [.int 0, .int 0, .int 0, .int 0, .int 0, .int 0, .long 0, .ref a9, .ref a10, .ref a11, .ref a12, .ref a13, .ref a14, .ref a15])), (a12, .inr (5, [.ref a16, .int 0]))]) hD hS hA [1, 2] rfl
  refine va_calli (va_runV (As := [.int p0]) (rest := []) ⟨hx, hb, hml, hown, hts⟩ (zX0_hasWitness l dC dI adK adV H.size a2 p0 a9 a10 a11 a12 a13 a14 a15 a16) (cwV 1 hts (tb_V mw_851 mw_852 mw_853 mw_100 mw_854) rfl rfl rfl (by decide +kernel) ⟨Nat.le_of_ble_eq_true rfl, Nat.le_of_ble_eq_true rfl⟩) ⟨XB, va_recv hKc hPc (ci := 0) (q0 := 0) rfl rfl, XQ (av := [.ref a2, .int p0]) hPc hKc hDc hC hS hFc⟩ rfl rfl hl.1 rfl (lv_room (Nat.le_of_ble_eq_true rfl)) dX9_parts_5 ⟨Nat.le_of_ble_eq_true rfl, Nat.le_of_ble_eq_true rfl⟩) hS (fun q _ h => hFc q h) hFc (fun r_1 u_9 t H1 locs ht hvm hw hB hz1 hk1 hS => ?_)
  try dsimp only at hw
  obtain ⟨hP1, hK1, hD1⟩ := hB
  rw [ht] at hP1
  have hK1 := va_K.moved hvm.symm hK1
  obtain ⟨hP, hD⟩ := va_join (wr := [(a0, .inr (9, [.ref a1, .int 0, .ref a2, .ref a3, .ref a4, .ref a5, .ref a6, .ref a7, .ref a8]))]) (w1 := [(a2, .inr (0, [.int 0, .int 0, .int 0, .int 0, .int 0, .int 0, .long 0, .ref a9, .ref a10, .ref a11, .ref a12, .ref a13, .ref a14, .ref a15])), (a12, .inr (5, [.ref a16, .int 0]))]) hP hD [1, 2] [0] rfl rfl (by decide) (by decide) hk1 hFc hP1 hD1
  have hK := (hK.sub (tys' := []) [] rfl).app hK1
  generalize H1 = H at hP hS ⊢
  have hP : va_P (dC, dI) CL [(a0, .inr (9, [.ref a1, .int 0, .ref a2, .ref a3, .ref a4, .ref a5, .ref a6, .ref a7, .ref a8])), (a2, .inr (0, [.int 0, .int 0, .int 0, .int 0, .int 0, .int 0, .long 0, .ref a9, .ref a10, .ref a11, .ref a12, .ref a13, .ref a14, .ref a15])), (a12, .inr (5, [.ref a16, .int 0]))] H := hP
  have hD : va_D A [(a0, .inr (9, [.ref a1, .int 0, .ref a2, .ref a3, .ref a4, .ref a5, .ref a6, .ref a7, .ref a8])), (a2, .inr (0, [.int 0, .int 0, .int 0, .int 0, .int 0, .int 0, .long 0, .ref a9, .ref a10, .ref a11, .ref a12, .ref a13, .ref a14, .ref a15])), (a12, .inr (5, [.ref a16, .int 0]))] := hD
  have hK : va_K (dC, dI) CL [] s := hK
  subst hw
  refine lv_if_eq (tgt := 33) hx hb dX9_parts_8 (by decide) (fun _ => ?_) (fun h => (h (by decide)).elim)
  refine lv_iconst (v := (-1)) hx hb dX9_parts_33 (by decide) ?_
  refine W.widen (k := 0) (n := 0) (Nat.le_of_ble_eq_true rfl) (Nat.le_of_ble_eq_true rfl) ?_
  exact W.iret (v := (-1)) hx hb hr (fun t ht hW => ⟨⟨(-1), (), rfl, rfl, trivial⟩, hS.F ht⟩) hS.2.2 dX9_parts_34
set_option maxHeartbeats 4000000 in
set_option maxRecDepth 100000 in
theorem zX6_feesOf (l : Launch) (dC : Nat → ClassId) (dI : Nat → Nat → Nat) (adK adV : Nat → Nat) (sz : Nat) (a0 : Nat) (a1 : Nat) (a2 : Nat) (a3 : Nat) (a4 : Nat) (a5 : Nat) (a6 : Nat) (a7 : Nat) (a8 : Nat) (a9 : Nat) (a10 : Nat) (a11 : Nat) (a12 : Nat) (a13 : Nat) (a14 : Nat) (a15 : Nat) (a16 : Nat) (a17 : Nat) (a18 : Nat) (a19 : Nat) : Met l yX6_feesOf (Cond.code yX6_feesOf cX6_feesOf 4 (some .int) :: TB) ({ frames := 1, cells := 0, slots := 0, locals := 100 }) (XP (dC, dI) adK adV [.ref a0, .int 0] sz [(a1, .inr (5, [.ref a2, .int 0])), (a3, .inr (2, [.ref a4, .ref a5, .ref a6, .ref a7, .ref a8, .int 0, .int 0, .ref a9, .ref a10, .long 0, .int 0, .int 0, .int 0, .int (-1)])), (a0, .inr (6, [.ref a3, .int 0, .ref a11, .ref a12, .ref a13])), (a4, .inr (0, [.int 0, .int 0, .int 0, .int 0, .int 0, .int 0, .long 0, .ref a14, .ref a15, .ref a16, .ref a1, .ref a17, .ref a18, .ref a19]))] []) (va_Qi (fun (r : Int32) (_ : Unit) => r = 0) (fun _ t => va_P (dC, dI) CL [(a1, .inr (5, [.ref a2, .int 0])), (a3, .inr (2, [.ref a4, .ref a5, .ref a6, .ref a7, .ref a8, .int 0, .int 0, .ref a9, .ref a10, .long 0, .int 0, .int 0, .int 0, .int (-1)])), (a0, .inr (6, [.ref a3, .int 0, .ref a11, .ref a12, .ref a13])), (a4, .inr (0, [.int 0, .int 0, .int 0, .int 0, .int 0, .int 0, .long 0, .ref a14, .ref a15, .ref a16, .ref a1, .ref a17, .ref a18, .ref a19]))] t.heap ∧ va_K (dC, dI) CL [] t ∧ va_D (va_A [(a1, .inr (5, [.ref a2, .int 0])), (a3, .inr (2, [.ref a4, .ref a5, .ref a6, .ref a7, .ref a8, .int 0, .int 0, .ref a9, .ref a10, .long 0, .int 0, .int 0, .int 0, .int (-1)])), (a0, .inr (6, [.ref a3, .int 0, .ref a11, .ref a12, .ref a13])), (a4, .inr (0, [.int 0, .int 0, .int 0, .int 0, .int 0, .int 0, .long 0, .ref a14, .ref a15, .ref a16, .ref a1, .ref a17, .ref a18, .ref a19]))] sz) [(a1, .inr (5, [.ref a2, .int 0])), (a3, .inr (2, [.ref a4, .ref a5, .ref a6, .ref a7, .ref a8, .int 0, .int 0, .ref a9, .ref a10, .long 0, .int 0, .int 0, .int 0, .int (-1)])), (a0, .inr (6, [.ref a3, .int 0, .ref a11, .ref a12, .ref a13])), (a4, .inr (0, [.int 0, .int 0, .int 0, .int 0, .int 0, .int 0, .long 0, .ref a14, .ref a15, .ref a16, .ref a1, .ref a17, .ref a18, .ref a19]))]) (va_A [(a1, .inr (5, [.ref a2, .int 0])), (a3, .inr (2, [.ref a4, .ref a5, .ref a6, .ref a7, .ref a8, .int 0, .int 0, .ref a9, .ref a10, .long 0, .int 0, .int 0, .int 0, .int (-1)])), (a0, .inr (6, [.ref a3, .int 0, .ref a11, .ref a12, .ref a13])), (a4, .inr (0, [.int 0, .int 0, .int 0, .int 0, .int 0, .int 0, .long 0, .ref a14, .ref a15, .ref a16, .ref a1, .ref a17, .ref a18, .ref a19]))] sz)) 0 0 (va_A [(a1, .inr (5, [.ref a2, .int 0])), (a3, .inr (2, [.ref a4, .ref a5, .ref a6, .ref a7, .ref a8, .int 0, .int 0, .ref a9, .ref a10, .long 0, .int 0, .int 0, .int 0, .int (-1)])), (a0, .inr (6, [.ref a3, .int 0, .ref a11, .ref a12, .ref a13])), (a4, .inr (0, [.int 0, .int 0, .int 0, .int 0, .int 0, .int 0, .long 0, .ref a14, .ref a15, .ref a16, .ref a1, .ref a17, .ref a18, .ref a19]))] sz) := by
  refine Met.ofW (cc := cX6_feesOf) (maxL := 4) (ret := (some .int)) (by decide) rfl ?_
  intro p e s m args below meth c s₁ B hml hv
  obtain ⟨rfl, hsz, hP, hK, hD0, hC⟩ := hv
  have hx := B.exec
  have hb := B.bytes
  have hr := B.returns
  have hts0 := atoms_spec (ws := Cond.code yX6_feesOf cX6_feesOf 4 (some .int) :: TB) B.pre
  have hts : ∀ w ∈ TB, w.before _ s = true := fun w h => hts0 w (List.mem_cons_of_mem _ h)
  have hown : s.vm.findClass RX6 = some m.cls := findClass_of_methodNamed B.named
  have hlocks := B.notSynchronized
  subst hsz
  have hD := hD0.self (sz := s.heap.size)
  generalize hAe : va_A [(a1, .inr (5, [.ref a2, .int 0])), (a3, .inr (2, [.ref a4, .ref a5, .ref a6, .ref a7, .ref a8, .int 0, .int 0, .ref a9, .ref a10, .long 0, .int 0, .int 0, .int 0, .int (-1)])), (a0, .inr (6, [.ref a3, .int 0, .ref a11, .ref a12, .ref a13])), (a4, .inr (0, [.int 0, .int 0, .int 0, .int 0, .int 0, .int 0, .long 0, .ref a14, .ref a15, .ref a16, .ref a1, .ref a17, .ref a18, .ref a19]))] s.heap.size = A at hD hC ⊢
  have hA : ∀ q : Nat, s.heap.size ≤ q → A q := fun q h => by rw [← hAe]; exact Or.inr h
  have hl := lv_entry ([.ref a0, .int 0]) (n := 4) (Nat.le_of_ble_eq_true rfl)
  rw [lg_entry_eq]
  generalize (lg_sl ([.ref a0, .int 0]) ++ List.replicate (4 - (lg_sl ([.ref a0, .int 0])).length) Slot.unset).toArray = ls at hl ⊢
  have hl : lv_has ls 4 [(0, .ref a0), (1, .int 0)] := hl
  have hP : va_P (dC, dI) CL [(a1, .inr (5, [.ref a2, .int 0])), (a3, .inr (2, [.ref a4, .ref a5, .ref a6, .ref a7, .ref a8, .int 0, .int 0, .ref a9, .ref a10, .long 0, .int 0, .int 0, .int 0, .int (-1)])), (a0, .inr (6, [.ref a3, .int 0, .ref a11, .ref a12, .ref a13])), (a4, .inr (0, [.int 0, .int 0, .int 0, .int 0, .int 0, .int 0, .long 0, .ref a14, .ref a15, .ref a16, .ref a1, .ref a17, .ref a18, .ref a19]))] s.heap := hP
  obtain ⟨H, hH⟩ : ∃ z, z = s.heap := ⟨_, rfl⟩
  rw [← hH] at hP ⊢
  have hS : va_S A s.heap H [] := by rw [hH]; exact va_S.rf
  refine lv_iconst (v := 0) hx hb dX6_feesOf_0 (by decide) ?_
  refine lv_istore_n (lv' := [(2, .int 0), (0, .ref a0), (1, .int 0)]) hx hb dX6_feesOf_1 rfl hl (by decide) rfl (fun ls hl => ?_)
  refine lv_iconst (v := 0) hx hb dX6_feesOf_2 (by decide) ?_
  refine lv_istore_n (lv' := [(3, .int 0), (2, .int 0), (0, .ref a0), (1, .int 0)]) hx hb dX6_feesOf_3 rfl hl (by decide) rfl (fun ls hl => ?_)
  refine lv_iload_n hx hb dX6_feesOf_4 rfl (lv_at hl 0 rfl) ?_
  refine lv_aload_n hx hb dX6_feesOf_5 rfl (lv_at hl 2 rfl) ?_
  refine va_get (D := (dC, dI)) (ci := 6) (v := .ref a3) (C := RX6) (T := TX6) (N := 5) hx hb hts iwX6 hown hK hP 2 rfl rfl 0 (by decide) (hts _ mw_497) (fun _ h9 => h9) rfl dX6_feesOf_6 ?_
  refine va_get (D := (dC, dI)) (ci := 2) (v := .ref a4) (C := RX2) (T := TX2) (N := 14) hx hb hts iwX2 hown hK hP 1 rfl rfl 0 (by decide) (hts _ mw_439) (fun _ h9 => h9) rfl dX6_feesOf_9 ?_
  refine va_get (D := (dC, dI)) (ci := 0) (v := .ref a1) (C := RX0) (T := TX0) (N := 14) hx hb hts iwX0 hown hK hP 3 rfl rfl 10 (by decide) (hts _ mw_267) (fun _ h9 => h9) rfl dX6_feesOf_12 ?_
  refine va_get (D := (dC, dI)) (ci := 5) (v := .int 0) (C := RX5) (T := TX5) (N := 2) hx hb hts iwX5 hown hK hP 0 rfl rfl 1 (by decide) (hts _ mw_146) (fun _ h9 => h9) rfl dX6_feesOf_15 ?_
  refine lv_icmp_ge (tgt := 54) hx hb dX6_feesOf_18 (by decide) (fun _ => ?_) (fun h => (h (by decide)).elim)
  refine lv_iload_n hx hb dX6_feesOf_54 rfl (lv_at hl 1 rfl) ?_
  refine W.widen (k := 0) (n := 0) (Nat.le_of_ble_eq_true rfl) (Nat.le_of_ble_eq_true rfl) ?_
  have hP9 := hP.sub (ws' := [(a1, .inr (5, [.ref a2, .int 0])), (a3, .inr (2, [.ref a4, .ref a5, .ref a6, .ref a7, .ref a8, .int 0, .int 0, .ref a9, .ref a10, .long 0, .int 0, .int 0, .int 0, .int (-1)])), (a0, .inr (6, [.ref a3, .int 0, .ref a11, .ref a12, .ref a13])), (a4, .inr (0, [.int 0, .int 0, .int 0, .int 0, .int 0, .int 0, .long 0, .ref a14, .ref a15, .ref a16, .ref a1, .ref a17, .ref a18, .ref a19]))]) [0, 1, 2, 3] rfl
  have hD9 := hD.sub (ws' := [(a1, .inr (5, [.ref a2, .int 0])), (a3, .inr (2, [.ref a4, .ref a5, .ref a6, .ref a7, .ref a8, .int 0, .int 0, .ref a9, .ref a10, .long 0, .int 0, .int 0, .int 0, .int (-1)])), (a0, .inr (6, [.ref a3, .int 0, .ref a11, .ref a12, .ref a13])), (a4, .inr (0, [.int 0, .int 0, .int 0, .int 0, .int 0, .int 0, .long 0, .ref a14, .ref a15, .ref a16, .ref a1, .ref a17, .ref a18, .ref a19]))]) [0, 1, 2, 3] (by decide) rfl
  have hK9 := hK.sub (tys' := []) [] rfl
  exact W.iret (v := 0) hx hb hr (fun t ht hW => ⟨⟨0, (), rfl, rfl, by rw [ht]; exact hP9, va_K.moved hW.alike hK9, hD9⟩, hS.F ht⟩) hS.2.2 dX6_feesOf_55
set_option maxHeartbeats 4000000 in
set_option maxRecDepth 100000 in
theorem zX6_partAll (l : Launch) (dC : Nat → ClassId) (dI : Nat → Nat → Nat) (adK adV : Nat → Nat) (sz : Nat) (a0 : Nat) (a1 : Nat) (a2 : Nat) (a3 : Nat) (a4 : Nat) (a5 : Nat) (a6 : Nat) (a7 : Nat) (a8 : Nat) (a9 : Nat) (a10 : Nat) (a11 : Nat) (a12 : Nat) (a13 : Nat) (a14 : Nat) (a15 : Nat) (a16 : Nat) (a17 : Nat) (a18 : Nat) (a19 : Nat) : Met l yX6_partAll (Cond.code yX6_partAll cX6_partAll 7 (some .boolean) :: TB) ({ frames := 1, cells := 0, slots := 0, locals := 100 }) (XP (dC, dI) adK adV [.ref a0, .int 0, .long 0] sz [(a1, .inr (5, [.ref a2, .int 0])), (a3, .inr (2, [.ref a4, .ref a5, .ref a6, .ref a7, .ref a8, .int 0, .int 0, .ref a9, .ref a10, .long 0, .int 0, .int 0, .int 0, .int (-1)])), (a0, .inr (6, [.ref a3, .int 0, .ref a11, .ref a12, .ref a13])), (a4, .inr (0, [.int 0, .int 0, .int 0, .int 0, .int 0, .int 0, .long 0, .ref a14, .ref a15, .ref a16, .ref a1, .ref a17, .ref a18, .ref a19]))] []) (va_Qi (fun (r : Int32) (_ : Unit) => r = 1) (fun _ t => va_P (dC, dI) CL [(a1, .inr (5, [.ref a2, .int 0])), (a3, .inr (2, [.ref a4, .ref a5, .ref a6, .ref a7, .ref a8, .int 0, .int 0, .ref a9, .ref a10, .long 0, .int 0, .int 0, .int 0, .int (-1)])), (a0, .inr (6, [.ref a3, .int 0, .ref a11, .ref a12, .ref a13])), (a4, .inr (0, [.int 0, .int 0, .int 0, .int 0, .int 0, .int 0, .long 0, .ref a14, .ref a15, .ref a16, .ref a1, .ref a17, .ref a18, .ref a19]))] t.heap ∧ va_K (dC, dI) CL [] t ∧ va_D (va_A [(a1, .inr (5, [.ref a2, .int 0])), (a3, .inr (2, [.ref a4, .ref a5, .ref a6, .ref a7, .ref a8, .int 0, .int 0, .ref a9, .ref a10, .long 0, .int 0, .int 0, .int 0, .int (-1)])), (a0, .inr (6, [.ref a3, .int 0, .ref a11, .ref a12, .ref a13])), (a4, .inr (0, [.int 0, .int 0, .int 0, .int 0, .int 0, .int 0, .long 0, .ref a14, .ref a15, .ref a16, .ref a1, .ref a17, .ref a18, .ref a19]))] sz) [(a1, .inr (5, [.ref a2, .int 0])), (a3, .inr (2, [.ref a4, .ref a5, .ref a6, .ref a7, .ref a8, .int 0, .int 0, .ref a9, .ref a10, .long 0, .int 0, .int 0, .int 0, .int (-1)])), (a0, .inr (6, [.ref a3, .int 0, .ref a11, .ref a12, .ref a13])), (a4, .inr (0, [.int 0, .int 0, .int 0, .int 0, .int 0, .int 0, .long 0, .ref a14, .ref a15, .ref a16, .ref a1, .ref a17, .ref a18, .ref a19]))]) (va_A [(a1, .inr (5, [.ref a2, .int 0])), (a3, .inr (2, [.ref a4, .ref a5, .ref a6, .ref a7, .ref a8, .int 0, .int 0, .ref a9, .ref a10, .long 0, .int 0, .int 0, .int 0, .int (-1)])), (a0, .inr (6, [.ref a3, .int 0, .ref a11, .ref a12, .ref a13])), (a4, .inr (0, [.int 0, .int 0, .int 0, .int 0, .int 0, .int 0, .long 0, .ref a14, .ref a15, .ref a16, .ref a1, .ref a17, .ref a18, .ref a19]))] sz)) 0 0 (va_A [(a1, .inr (5, [.ref a2, .int 0])), (a3, .inr (2, [.ref a4, .ref a5, .ref a6, .ref a7, .ref a8, .int 0, .int 0, .ref a9, .ref a10, .long 0, .int 0, .int 0, .int 0, .int (-1)])), (a0, .inr (6, [.ref a3, .int 0, .ref a11, .ref a12, .ref a13])), (a4, .inr (0, [.int 0, .int 0, .int 0, .int 0, .int 0, .int 0, .long 0, .ref a14, .ref a15, .ref a16, .ref a1, .ref a17, .ref a18, .ref a19]))] sz) := by
  refine Met.ofW (cc := cX6_partAll) (maxL := 7) (ret := (some .boolean)) (by decide) rfl ?_
  intro p e s m args below meth c s₁ B hml hv
  obtain ⟨rfl, hsz, hP, hK, hD0, hC⟩ := hv
  have hx := B.exec
  have hb := B.bytes
  have hr := B.returns
  have hts0 := atoms_spec (ws := Cond.code yX6_partAll cX6_partAll 7 (some .boolean) :: TB) B.pre
  have hts : ∀ w ∈ TB, w.before _ s = true := fun w h => hts0 w (List.mem_cons_of_mem _ h)
  have hown : s.vm.findClass RX6 = some m.cls := findClass_of_methodNamed B.named
  have hlocks := B.notSynchronized
  subst hsz
  have hD := hD0.self (sz := s.heap.size)
  generalize hAe : va_A [(a1, .inr (5, [.ref a2, .int 0])), (a3, .inr (2, [.ref a4, .ref a5, .ref a6, .ref a7, .ref a8, .int 0, .int 0, .ref a9, .ref a10, .long 0, .int 0, .int 0, .int 0, .int (-1)])), (a0, .inr (6, [.ref a3, .int 0, .ref a11, .ref a12, .ref a13])), (a4, .inr (0, [.int 0, .int 0, .int 0, .int 0, .int 0, .int 0, .long 0, .ref a14, .ref a15, .ref a16, .ref a1, .ref a17, .ref a18, .ref a19]))] s.heap.size = A at hD hC ⊢
  have hA : ∀ q : Nat, s.heap.size ≤ q → A q := fun q h => by rw [← hAe]; exact Or.inr h
  have hl := lv_entry ([.ref a0, .int 0, .long 0]) (n := 7) (Nat.le_of_ble_eq_true rfl)
  rw [lg_entry_eq]
  generalize (lg_sl ([.ref a0, .int 0, .long 0]) ++ List.replicate (7 - (lg_sl ([.ref a0, .int 0, .long 0])).length) Slot.unset).toArray = ls at hl ⊢
  have hl : lv_has ls 7 [(0, .ref a0), (1, .int 0), (2, .long 0)] := hl
  have hP : va_P (dC, dI) CL [(a1, .inr (5, [.ref a2, .int 0])), (a3, .inr (2, [.ref a4, .ref a5, .ref a6, .ref a7, .ref a8, .int 0, .int 0, .ref a9, .ref a10, .long 0, .int 0, .int 0, .int 0, .int (-1)])), (a0, .inr (6, [.ref a3, .int 0, .ref a11, .ref a12, .ref a13])), (a4, .inr (0, [.int 0, .int 0, .int 0, .int 0, .int 0, .int 0, .long 0, .ref a14, .ref a15, .ref a16, .ref a1, .ref a17, .ref a18, .ref a19]))] s.heap := hP
  obtain ⟨H, hH⟩ : ∃ z, z = s.heap := ⟨_, rfl⟩
  rw [← hH] at hP ⊢
  have hS : va_S A s.heap H [] := by rw [hH]; exact va_S.rf
  refine lv_lconst (v := 0) hx hb dX6_partAll_0 (by decide) ?_
  refine lv_lstore (lv' := [(4, .long 0), (0, .ref a0), (1, .int 0), (2, .long 0)]) hx hb dX6_partAll_1 hl (by decide) rfl (fun ls hl => ?_)
  refine lv_iconst (v := 0) hx hb dX6_partAll_3 (by decide) ?_
  refine lv_istore (lv' := [(6, .int 0), (4, .long 0), (0, .ref a0), (1, .int 0), (2, .long 0)]) hx hb dX6_partAll_4 hl (by decide) rfl (fun ls hl => ?_)
  refine lv_iload hx hb dX6_partAll_6 (lv_at hl 0 rfl) ?_
  refine lv_aload_n hx hb dX6_partAll_8 rfl (lv_at hl 2 rfl) ?_
  refine va_get (D := (dC, dI)) (ci := 6) (v := .ref a3) (C := RX6) (T := TX6) (N := 5) hx hb hts iwX6 hown hK hP 2 rfl rfl 0 (by decide) (hts _ mw_497) (fun _ h9 => h9) rfl dX6_partAll_9 ?_
  refine va_get (D := (dC, dI)) (ci := 2) (v := .ref a4) (C := RX2) (T := TX2) (N := 14) hx hb hts iwX2 hown hK hP 1 rfl rfl 0 (by decide) (hts _ mw_439) (fun _ h9 => h9) rfl dX6_partAll_12 ?_
  refine va_get (D := (dC, dI)) (ci := 0) (v := .ref a1) (C := RX0) (T := TX0) (N := 14) hx hb hts iwX0 hown hK hP 3 rfl rfl 10 (by decide) (hts _ mw_267) (fun _ h9 => h9) rfl dX6_partAll_15 ?_
  refine va_get (D := (dC, dI)) (ci := 5) (v := .int 0) (C := RX5) (T := TX5) (N := 2) hx hb hts iwX5 hown hK hP 0 rfl rfl 1 (by decide) (hts _ mw_146) (fun _ h9 => h9) rfl dX6_partAll_18 ?_
  refine lv_icmp_ge (tgt := 67) hx hb dX6_partAll_21 (by decide) (fun _ => ?_) (fun h => (h (by decide)).elim)
  refine lv_lload_n hx hb dX6_partAll_67 rfl (lv_at hl 4 rfl) ?_
  refine lv_lload hx hb dX6_partAll_68 (lv_at hl 1 rfl) ?_
  refine lv_ldc2 (v := (-1)) hx hb hown (hts _ mw_1068) dX6_partAll_70 ?_
  refine lv_lxor hx hb dX6_partAll_73 ?_
  refine x_litL (-1) (by decide) ?_
  refine lv_land hx hb dX6_partAll_74 ?_
  refine x_litL 0 (by decide) ?_
  refine lv_lconst (v := 0) hx hb dX6_partAll_75 (by decide) ?_
  refine W.lcmp hx hb dX6_partAll_76 ?_
  refine x_lit 0 (by decide) ?_
  refine lv_if_ne (tgt := 84) hx hb dX6_partAll_77 (by decide) (fun h => (h (by decide)).elim) (fun _ => ?_)
  refine lv_iconst (v := 1) hx hb dX6_partAll_80 (by decide) ?_
  refine lv_goto (tgt := 85) hx hb dX6_partAll_81 (by decide) ?_
  refine W.widen (k := 0) (n := 0) (Nat.le_of_ble_eq_true rfl) (Nat.le_of_ble_eq_true rfl) ?_
  have hP9 := hP.sub (ws' := [(a1, .inr (5, [.ref a2, .int 0])), (a3, .inr (2, [.ref a4, .ref a5, .ref a6, .ref a7, .ref a8, .int 0, .int 0, .ref a9, .ref a10, .long 0, .int 0, .int 0, .int 0, .int (-1)])), (a0, .inr (6, [.ref a3, .int 0, .ref a11, .ref a12, .ref a13])), (a4, .inr (0, [.int 0, .int 0, .int 0, .int 0, .int 0, .int 0, .long 0, .ref a14, .ref a15, .ref a16, .ref a1, .ref a17, .ref a18, .ref a19]))]) [0, 1, 2, 3] rfl
  have hD9 := hD.sub (ws' := [(a1, .inr (5, [.ref a2, .int 0])), (a3, .inr (2, [.ref a4, .ref a5, .ref a6, .ref a7, .ref a8, .int 0, .int 0, .ref a9, .ref a10, .long 0, .int 0, .int 0, .int 0, .int (-1)])), (a0, .inr (6, [.ref a3, .int 0, .ref a11, .ref a12, .ref a13])), (a4, .inr (0, [.int 0, .int 0, .int 0, .int 0, .int 0, .int 0, .long 0, .ref a14, .ref a15, .ref a16, .ref a1, .ref a17, .ref a18, .ref a19]))]) [0, 1, 2, 3] (by decide) rfl
  have hK9 := hK.sub (tys' := []) [] rfl
  exact W.zret (v := 1) hx hb hr (by decide) (fun t ht hW => ⟨⟨1, (), rfl, rfl, by rw [ht]; exact hP9, va_K.moved hW.alike hK9, hD9⟩, hS.F ht⟩) hS.2.2 dX6_partAll_85
set_option maxHeartbeats 4000000 in
set_option maxRecDepth 100000 in
theorem zX6_cheapest (l : Launch) (dC : Nat → ClassId) (dI : Nat → Nat → Nat) (adK adV : Nat → Nat) (sz : Nat) (a0 : Nat) (a1 : Nat) (a2 : Nat) (a3 : Nat) (a4 : Nat) (a5 : Nat) (a6 : Nat) (a7 : Nat) (a8 : Nat) (a9 : Nat) (a10 : Nat) (a11 : Nat) (a12 : Nat) (a13 : Nat) (a14 : Nat) (a15 : Nat) (a16 : Nat) (a17 : Nat) (a18 : Nat) (a19 : Nat) : Met l yX6_cheapest (Cond.code yX6_cheapest cX6_cheapest 8 (some .int) :: TB) ({ frames := 2, cells := 0, slots := 0, locals := 126 }) (XP (dC, dI) adK adV [.ref a0, .int 0] sz [(a1, .inr (5, [.ref a2, .int 0])), (a3, .inr (2, [.ref a4, .ref a5, .ref a6, .ref a7, .ref a8, .int 0, .int 0, .ref a9, .ref a10, .long 0, .int 0, .int 0, .int 0, .int (-1)])), (a0, .inr (6, [.ref a3, .int 0, .ref a11, .ref a12, .ref a13])), (a4, .inr (0, [.int 0, .int 0, .int 0, .int 0, .int 0, .int 0, .long 0, .ref a14, .ref a15, .ref a16, .ref a1, .ref a17, .ref a18, .ref a19]))] []) (va_Qi (fun (r : Int32) (_ : Unit) => r = 0) (fun _ t => va_P (dC, dI) CL [(a1, .inr (5, [.ref a2, .int 0])), (a3, .inr (2, [.ref a4, .ref a5, .ref a6, .ref a7, .ref a8, .int 0, .int 0, .ref a9, .ref a10, .long 0, .int 0, .int 0, .int 0, .int (-1)])), (a0, .inr (6, [.ref a3, .int 0, .ref a11, .ref a12, .ref a13])), (a4, .inr (0, [.int 0, .int 0, .int 0, .int 0, .int 0, .int 0, .long 0, .ref a14, .ref a15, .ref a16, .ref a1, .ref a17, .ref a18, .ref a19]))] t.heap ∧ va_K (dC, dI) CL [] t ∧ va_D (va_A [(a1, .inr (5, [.ref a2, .int 0])), (a3, .inr (2, [.ref a4, .ref a5, .ref a6, .ref a7, .ref a8, .int 0, .int 0, .ref a9, .ref a10, .long 0, .int 0, .int 0, .int 0, .int (-1)])), (a0, .inr (6, [.ref a3, .int 0, .ref a11, .ref a12, .ref a13])), (a4, .inr (0, [.int 0, .int 0, .int 0, .int 0, .int 0, .int 0, .long 0, .ref a14, .ref a15, .ref a16, .ref a1, .ref a17, .ref a18, .ref a19]))] sz) [(a1, .inr (5, [.ref a2, .int 0])), (a3, .inr (2, [.ref a4, .ref a5, .ref a6, .ref a7, .ref a8, .int 0, .int 0, .ref a9, .ref a10, .long 0, .int 0, .int 0, .int 0, .int (-1)])), (a0, .inr (6, [.ref a3, .int 0, .ref a11, .ref a12, .ref a13])), (a4, .inr (0, [.int 0, .int 0, .int 0, .int 0, .int 0, .int 0, .long 0, .ref a14, .ref a15, .ref a16, .ref a1, .ref a17, .ref a18, .ref a19]))]) (va_A [(a1, .inr (5, [.ref a2, .int 0])), (a3, .inr (2, [.ref a4, .ref a5, .ref a6, .ref a7, .ref a8, .int 0, .int 0, .ref a9, .ref a10, .long 0, .int 0, .int 0, .int 0, .int (-1)])), (a0, .inr (6, [.ref a3, .int 0, .ref a11, .ref a12, .ref a13])), (a4, .inr (0, [.int 0, .int 0, .int 0, .int 0, .int 0, .int 0, .long 0, .ref a14, .ref a15, .ref a16, .ref a1, .ref a17, .ref a18, .ref a19]))] sz)) 0 0 (va_A [(a1, .inr (5, [.ref a2, .int 0])), (a3, .inr (2, [.ref a4, .ref a5, .ref a6, .ref a7, .ref a8, .int 0, .int 0, .ref a9, .ref a10, .long 0, .int 0, .int 0, .int 0, .int (-1)])), (a0, .inr (6, [.ref a3, .int 0, .ref a11, .ref a12, .ref a13])), (a4, .inr (0, [.int 0, .int 0, .int 0, .int 0, .int 0, .int 0, .long 0, .ref a14, .ref a15, .ref a16, .ref a1, .ref a17, .ref a18, .ref a19]))] sz) := by
  refine Met.ofW (cc := cX6_cheapest) (maxL := 8) (ret := (some .int)) (by decide) rfl ?_
  intro p e s m args below meth c s₁ B hml hv
  obtain ⟨rfl, hsz, hP, hK, hD0, hC⟩ := hv
  have hx := B.exec
  have hb := B.bytes
  have hr := B.returns
  have hts0 := atoms_spec (ws := Cond.code yX6_cheapest cX6_cheapest 8 (some .int) :: TB) B.pre
  have hts : ∀ w ∈ TB, w.before _ s = true := fun w h => hts0 w (List.mem_cons_of_mem _ h)
  have hown : s.vm.findClass RX6 = some m.cls := findClass_of_methodNamed B.named
  have hlocks := B.notSynchronized
  subst hsz
  have hD := hD0.self (sz := s.heap.size)
  generalize hAe : va_A [(a1, .inr (5, [.ref a2, .int 0])), (a3, .inr (2, [.ref a4, .ref a5, .ref a6, .ref a7, .ref a8, .int 0, .int 0, .ref a9, .ref a10, .long 0, .int 0, .int 0, .int 0, .int (-1)])), (a0, .inr (6, [.ref a3, .int 0, .ref a11, .ref a12, .ref a13])), (a4, .inr (0, [.int 0, .int 0, .int 0, .int 0, .int 0, .int 0, .long 0, .ref a14, .ref a15, .ref a16, .ref a1, .ref a17, .ref a18, .ref a19]))] s.heap.size = A at hD hC ⊢
  have hA : ∀ q : Nat, s.heap.size ≤ q → A q := fun q h => by rw [← hAe]; exact Or.inr h
  have hl := lv_entry ([.ref a0, .int 0]) (n := 8) (Nat.le_of_ble_eq_true rfl)
  rw [lg_entry_eq]
  generalize (lg_sl ([.ref a0, .int 0]) ++ List.replicate (8 - (lg_sl ([.ref a0, .int 0])).length) Slot.unset).toArray = ls at hl ⊢
  have hl : lv_has ls 8 [(0, .ref a0), (1, .int 0)] := hl
  have hP : va_P (dC, dI) CL [(a1, .inr (5, [.ref a2, .int 0])), (a3, .inr (2, [.ref a4, .ref a5, .ref a6, .ref a7, .ref a8, .int 0, .int 0, .ref a9, .ref a10, .long 0, .int 0, .int 0, .int 0, .int (-1)])), (a0, .inr (6, [.ref a3, .int 0, .ref a11, .ref a12, .ref a13])), (a4, .inr (0, [.int 0, .int 0, .int 0, .int 0, .int 0, .int 0, .long 0, .ref a14, .ref a15, .ref a16, .ref a1, .ref a17, .ref a18, .ref a19]))] s.heap := hP
  obtain ⟨H, hH⟩ : ∃ z, z = s.heap := ⟨_, rfl⟩
  rw [← hH] at hP ⊢
  have hS : va_S A s.heap H [] := by rw [hH]; exact va_S.rf
  refine lv_aload_n hx hb dX6_cheapest_0 rfl (lv_at hl 0 rfl) ?_
  refine va_get (D := (dC, dI)) (ci := 6) (v := .ref a3) (C := RX6) (T := TX6) (N := 5) hx hb hts iwX6 hown hK hP 2 rfl rfl 0 (by decide) (hts _ mw_497) (fun _ h9 => h9) rfl dX6_cheapest_1 ?_
  refine va_get (D := (dC, dI)) (ci := 2) (v := .long 0) (C := RX2) (T := TX2) (N := 14) hx hb hts iwX2 hown hK hP 1 rfl rfl 9 (by decide) (hts _ mw_452) (fun _ h9 => h9) rfl dX6_cheapest_4 ?_
  refine lv_iload_n hx hb dX6_cheapest_7 rfl (lv_at hl 1 rfl) ?_
  have hPc := hP.sub (ws' := []) [] rfl
  have hDc := hD.sub (ws' := []) [] (by decide) rfl
  have hKc := hK.sub (tys' := []) [] rfl
  have hFc := va_free (wc := []) hD hS hA [] rfl
  refine va_calll (va_runSN (As := [.int 0]) (rest := [.long 0]) ⟨hx, hb, hml, hown, hts⟩ (zX9_pairsOf l dC dI adK adV H.size) ⟨va_cnB 1 hts (tb_code mw_1032) rfl rfl rfl hC.p5 (hts _ mw_99) (by decide +kernel) ⟨Nat.le_of_ble_eq_true rfl, Nat.le_of_ble_eq_true rfl⟩, hts _ mw_1031, trivial⟩ ⟨XB, XQ (av := [.int 0]) hPc hKc hDc hC hS hFc⟩ rfl rfl hl.1 rfl (lv_room (Nat.le_of_ble_eq_true rfl)) dX6_cheapest_8 ⟨Nat.le_of_ble_eq_true rfl, Nat.le_of_ble_eq_true rfl⟩) hS (fun q _ h => hFc q h) hFc (fun r_1 u_9 t H1 locs ht hvm hw hB hz1 hk1 hS => ?_)
  try dsimp only at hw
  obtain ⟨hP1, hK1, hD1⟩ := hB
  rw [ht] at hP1
  have hK1 := va_K.moved hvm.symm hK1
  obtain ⟨hP, hD⟩ := va_join (wr := [(a1, .inr (5, [.ref a2, .int 0])), (a3, .inr (2, [.ref a4, .ref a5, .ref a6, .ref a7, .ref a8, .int 0, .int 0, .ref a9, .ref a10, .long 0, .int 0, .int 0, .int 0, .int (-1)])), (a0, .inr (6, [.ref a3, .int 0, .ref a11, .ref a12, .ref a13])), (a4, .inr (0, [.int 0, .int 0, .int 0, .int 0, .int 0, .int 0, .long 0, .ref a14, .ref a15, .ref a16, .ref a1, .ref a17, .ref a18, .ref a19]))]) (w1 := []) hP hD [] [0, 1, 2, 3] rfl rfl (by decide) (by decide) hk1 hFc hP1 hD1
  have hK := (hK.sub (tys' := []) [] rfl).app hK1
  generalize H1 = H at hP hS ⊢
  have hP : va_P (dC, dI) CL [(a1, .inr (5, [.ref a2, .int 0])), (a3, .inr (2, [.ref a4, .ref a5, .ref a6, .ref a7, .ref a8, .int 0, .int 0, .ref a9, .ref a10, .long 0, .int 0, .int 0, .int 0, .int (-1)])), (a0, .inr (6, [.ref a3, .int 0, .ref a11, .ref a12, .ref a13])), (a4, .inr (0, [.int 0, .int 0, .int 0, .int 0, .int 0, .int 0, .long 0, .ref a14, .ref a15, .ref a16, .ref a1, .ref a17, .ref a18, .ref a19]))] H := hP
  have hD : va_D A [(a1, .inr (5, [.ref a2, .int 0])), (a3, .inr (2, [.ref a4, .ref a5, .ref a6, .ref a7, .ref a8, .int 0, .int 0, .ref a9, .ref a10, .long 0, .int 0, .int 0, .int 0, .int (-1)])), (a0, .inr (6, [.ref a3, .int 0, .ref a11, .ref a12, .ref a13])), (a4, .inr (0, [.int 0, .int 0, .int 0, .int 0, .int 0, .int 0, .long 0, .ref a14, .ref a15, .ref a16, .ref a1, .ref a17, .ref a18, .ref a19]))] := hD
  have hK : va_K (dC, dI) CL [] s := hK
  subst hw
  refine lv_land hx hb dX6_cheapest_11 ?_
  refine x_litL 0 (by decide) ?_
  refine lv_lstore_n (lv' := [(2, .long 0), (0, .ref a0), (1, .int 0)]) hx hb dX6_cheapest_12 rfl hl (by decide) rfl (fun ls hl => ?_)
  refine lv_iconst (v := (-1)) hx hb dX6_cheapest_13 (by decide) ?_
  refine lv_istore (lv' := [(4, .int (-1)), (2, .long 0), (0, .ref a0), (1, .int 0)]) hx hb dX6_cheapest_14 hl (by decide) rfl (fun ls hl => ?_)
  refine lv_iconst (v := 0) hx hb dX6_cheapest_16 (by decide) ?_
  refine lv_istore (lv' := [(5, .int 0), (4, .int (-1)), (2, .long 0), (0, .ref a0), (1, .int 0)]) hx hb dX6_cheapest_17 hl (by decide) rfl (fun ls hl => ?_)
  refine lv_iconst (v := 0) hx hb dX6_cheapest_19 (by decide) ?_
  refine lv_istore (lv' := [(6, .int 0), (5, .int 0), (4, .int (-1)), (2, .long 0), (0, .ref a0), (1, .int 0)]) hx hb dX6_cheapest_20 hl (by decide) rfl (fun ls hl => ?_)
  refine lv_iload hx hb dX6_cheapest_22 (lv_at hl 0 rfl) ?_
  refine lv_iconst (v := 1) hx hb dX6_cheapest_24 (by decide) ?_
  refine lv_aload_n hx hb dX6_cheapest_25 rfl (lv_at hl 4 rfl) ?_
  refine va_get (D := (dC, dI)) (ci := 6) (v := .ref a3) (C := RX6) (T := TX6) (N := 5) hx hb hts iwX6 hown hK hP 2 rfl rfl 0 (by decide) (hts _ mw_497) (fun _ h9 => h9) rfl dX6_cheapest_26 ?_
  refine va_get (D := (dC, dI)) (ci := 2) (v := .ref a4) (C := RX2) (T := TX2) (N := 14) hx hb hts iwX2 hown hK hP 1 rfl rfl 0 (by decide) (hts _ mw_439) (fun _ h9 => h9) rfl dX6_cheapest_29 ?_
  refine va_get (D := (dC, dI)) (ci := 0) (v := .ref a1) (C := RX0) (T := TX0) (N := 14) hx hb hts iwX0 hown hK hP 3 rfl rfl 10 (by decide) (hts _ mw_267) (fun _ h9 => h9) rfl dX6_cheapest_32 ?_
  refine va_get (D := (dC, dI)) (ci := 5) (v := .int 0) (C := RX5) (T := TX5) (N := 2) hx hb hts iwX5 hown hK hP 0 rfl rfl 1 (by decide) (hts _ mw_146) (fun _ h9 => h9) rfl dX6_cheapest_35 ?_
  refine lv_ishl hx hb dX6_cheapest_38 ?_
  refine x_lit 1 (by decide) ?_
  refine lv_icmp_ge (tgt := 87) hx hb dX6_cheapest_39 (by decide) (fun h => absurd h (by decide)) (fun _ => ?_)
  refine lv_aload_n hx hb dX6_cheapest_42 rfl (lv_at hl 4 rfl) ?_
  refine lv_iload hx hb dX6_cheapest_43 (lv_at hl 0 rfl) ?_
  have hPc := hP.sub (ws' := [(a1, .inr (5, [.ref a2, .int 0])), (a3, .inr (2, [.ref a4, .ref a5, .ref a6, .ref a7, .ref a8, .int 0, .int 0, .ref a9, .ref a10, .long 0, .int 0, .int 0, .int 0, .int (-1)])), (a0, .inr (6, [.ref a3, .int 0, .ref a11, .ref a12, .ref a13])), (a4, .inr (0, [.int 0, .int 0, .int 0, .int 0, .int 0, .int 0, .long 0, .ref a14, .ref a15, .ref a16, .ref a1, .ref a17, .ref a18, .ref a19]))]) [0, 1, 2, 3] rfl
  have hDc := hD.sub (ws' := [(a1, .inr (5, [.ref a2, .int 0])), (a3, .inr (2, [.ref a4, .ref a5, .ref a6, .ref a7, .ref a8, .int 0, .int 0, .ref a9, .ref a10, .long 0, .int 0, .int 0, .int 0, .int (-1)])), (a0, .inr (6, [.ref a3, .int 0, .ref a11, .ref a12, .ref a13])), (a4, .inr (0, [.int 0, .int 0, .int 0, .int 0, .int 0, .int 0, .long 0, .ref a14, .ref a15, .ref a16, .ref a1, .ref a17, .ref a18, .ref a19]))]) [0, 1, 2, 3] (by decide) rfl
  have hKc := hK.sub (tys' := []) [] rfl
  have hFc := va_free (wc := [(a1, .inr (5, [.ref a2, .int 0])), (a3, .inr (2, [.ref a4, .ref a5, .ref a6, .ref a7, .ref a8, .int 0, .int 0, .ref a9, .ref a10, .long 0, .int 0, .int 0, .int 0, .int (-1)])), (a0, .inr (6, [.ref a3, .int 0, .ref a11, .ref a12, .ref a13])), (a4, .inr (0, [.int 0, .int 0, .int 0, .int 0, .int 0, .int 0, .long 0, .ref a14, .ref a15, .ref a16, .ref a1, .ref a17, .ref a18, .ref a19]))]) hD hS hA [0, 1, 2, 3] rfl
  refine va_calli (va_runV (As := [.int 0]) (rest := []) ⟨hx, hb, hml, hown, hts⟩ (zX6_feesOf l dC dI adK adV H.size a0 a1 a2 a3 a4 a5 a6 a7 a8 a9 a10 a11 a12 a13 a14 a15 a16 a17 a18 a19) (cwV 1 hts (tb_V mw_1060 mw_1061 mw_1062 mw_113 mw_1063) rfl rfl rfl (by decide +kernel) ⟨Nat.le_of_ble_eq_true rfl, Nat.le_of_ble_eq_true rfl⟩) ⟨XB, va_recv hKc hPc (ci := 6) (q0 := 2) rfl rfl, XQ (av := [.ref a0, .int 0]) hPc hKc hDc hC hS hFc⟩ rfl rfl hl.1 rfl (lv_room (Nat.le_of_ble_eq_true rfl)) dX6_cheapest_45 ⟨Nat.le_of_ble_eq_true rfl, Nat.le_of_ble_eq_true rfl⟩) hS (fun q _ h => hFc q h) hFc (fun r_2 u_9 t H1 locs ht hvm hw hB hz1 hk1 hS => ?_)
  try dsimp only at hw
  obtain ⟨hP1, hK1, hD1⟩ := hB
  rw [ht] at hP1
  have hK1 := va_K.moved hvm.symm hK1
  obtain ⟨hP, hD⟩ := va_join (wr := []) (w1 := [(a1, .inr (5, [.ref a2, .int 0])), (a3, .inr (2, [.ref a4, .ref a5, .ref a6, .ref a7, .ref a8, .int 0, .int 0, .ref a9, .ref a10, .long 0, .int 0, .int 0, .int 0, .int (-1)])), (a0, .inr (6, [.ref a3, .int 0, .ref a11, .ref a12, .ref a13])), (a4, .inr (0, [.int 0, .int 0, .int 0, .int 0, .int 0, .int 0, .long 0, .ref a14, .ref a15, .ref a16, .ref a1, .ref a17, .ref a18, .ref a19]))]) hP hD [0, 1, 2, 3] [] rfl rfl (by decide) (by decide) hk1 hFc hP1 hD1
  have hK := (hK.sub (tys' := []) [] rfl).app hK1
  generalize H1 = H at hP hS ⊢
  have hP : va_P (dC, dI) CL [(a1, .inr (5, [.ref a2, .int 0])), (a3, .inr (2, [.ref a4, .ref a5, .ref a6, .ref a7, .ref a8, .int 0, .int 0, .ref a9, .ref a10, .long 0, .int 0, .int 0, .int 0, .int (-1)])), (a0, .inr (6, [.ref a3, .int 0, .ref a11, .ref a12, .ref a13])), (a4, .inr (0, [.int 0, .int 0, .int 0, .int 0, .int 0, .int 0, .long 0, .ref a14, .ref a15, .ref a16, .ref a1, .ref a17, .ref a18, .ref a19]))] H := hP
  have hD : va_D A [(a1, .inr (5, [.ref a2, .int 0])), (a3, .inr (2, [.ref a4, .ref a5, .ref a6, .ref a7, .ref a8, .int 0, .int 0, .ref a9, .ref a10, .long 0, .int 0, .int 0, .int 0, .int (-1)])), (a0, .inr (6, [.ref a3, .int 0, .ref a11, .ref a12, .ref a13])), (a4, .inr (0, [.int 0, .int 0, .int 0, .int 0, .int 0, .int 0, .long 0, .ref a14, .ref a15, .ref a16, .ref a1, .ref a17, .ref a18, .ref a19]))] := hD
  have hK : va_K (dC, dI) CL [] s := hK
  subst hw
  refine lv_istore (lv' := [(7, .int 0), (6, .int 0), (5, .int 0), (4, .int (-1)), (2, .long 0), (0, .ref a0), (1, .int 0)]) hx hb dX6_cheapest_48 hl (by decide) rfl (fun ls hl => ?_)
  refine lv_iload hx hb dX6_cheapest_50 (lv_at hl 3 rfl) ?_
  refine lv_iconst (v := (-1)) hx hb dX6_cheapest_52 (by decide) ?_
  refine lv_icmp_eq (tgt := 63) hx hb dX6_cheapest_53 (by decide) (fun _ => ?_) (fun h => (h (by decide)).elim)
  refine lv_aload_n hx hb dX6_cheapest_63 rfl (lv_at hl 5 rfl) ?_
  refine lv_iload hx hb dX6_cheapest_64 (lv_at hl 1 rfl) ?_
  refine lv_lload_n hx hb dX6_cheapest_66 rfl (lv_at hl 4 rfl) ?_
  have hPc := hP.sub (ws' := [(a1, .inr (5, [.ref a2, .int 0])), (a3, .inr (2, [.ref a4, .ref a5, .ref a6, .ref a7, .ref a8, .int 0, .int 0, .ref a9, .ref a10, .long 0, .int 0, .int 0, .int 0, .int (-1)])), (a0, .inr (6, [.ref a3, .int 0, .ref a11, .ref a12, .ref a13])), (a4, .inr (0, [.int 0, .int 0, .int 0, .int 0, .int 0, .int 0, .long 0, .ref a14, .ref a15, .ref a16, .ref a1, .ref a17, .ref a18, .ref a19]))]) [0, 1, 2, 3] rfl
  have hDc := hD.sub (ws' := [(a1, .inr (5, [.ref a2, .int 0])), (a3, .inr (2, [.ref a4, .ref a5, .ref a6, .ref a7, .ref a8, .int 0, .int 0, .ref a9, .ref a10, .long 0, .int 0, .int 0, .int 0, .int (-1)])), (a0, .inr (6, [.ref a3, .int 0, .ref a11, .ref a12, .ref a13])), (a4, .inr (0, [.int 0, .int 0, .int 0, .int 0, .int 0, .int 0, .long 0, .ref a14, .ref a15, .ref a16, .ref a1, .ref a17, .ref a18, .ref a19]))]) [0, 1, 2, 3] (by decide) rfl
  have hKc := hK.sub (tys' := []) [] rfl
  have hFc := va_free (wc := [(a1, .inr (5, [.ref a2, .int 0])), (a3, .inr (2, [.ref a4, .ref a5, .ref a6, .ref a7, .ref a8, .int 0, .int 0, .ref a9, .ref a10, .long 0, .int 0, .int 0, .int 0, .int (-1)])), (a0, .inr (6, [.ref a3, .int 0, .ref a11, .ref a12, .ref a13])), (a4, .inr (0, [.int 0, .int 0, .int 0, .int 0, .int 0, .int 0, .long 0, .ref a14, .ref a15, .ref a16, .ref a1, .ref a17, .ref a18, .ref a19]))]) hD hS hA [0, 1, 2, 3] rfl
  refine va_calli (va_runV (As := [.int 0, .long 0]) (rest := []) ⟨hx, hb, hml, hown, hts⟩ (zX6_partAll l dC dI adK adV H.size a0 a1 a2 a3 a4 a5 a6 a7 a8 a9 a10 a11 a12 a13 a14 a15 a16 a17 a18 a19) (cwV 2 hts (tb_V mw_1064 mw_1066 mw_41 mw_113 mw_1067) rfl rfl rfl (by decide +kernel) ⟨Nat.le_of_ble_eq_true rfl, Nat.le_of_ble_eq_true rfl⟩) ⟨XB, va_recv hKc hPc (ci := 6) (q0 := 2) rfl rfl, XQ (av := [.ref a0, .int 0, .long 0]) hPc hKc hDc hC hS hFc⟩ rfl rfl hl.1 rfl (lv_room (Nat.le_of_ble_eq_true rfl)) dX6_cheapest_67 ⟨Nat.le_of_ble_eq_true rfl, Nat.le_of_ble_eq_true rfl⟩) hS (fun q _ h => hFc q h) hFc (fun r_3 u_9 t H1 locs ht hvm hw hB hz1 hk1 hS => ?_)
  try dsimp only at hw
  obtain ⟨hP1, hK1, hD1⟩ := hB
  rw [ht] at hP1
  have hK1 := va_K.moved hvm.symm hK1
  obtain ⟨hP, hD⟩ := va_join (wr := []) (w1 := [(a1, .inr (5, [.ref a2, .int 0])), (a3, .inr (2, [.ref a4, .ref a5, .ref a6, .ref a7, .ref a8, .int 0, .int 0, .ref a9, .ref a10, .long 0, .int 0, .int 0, .int 0, .int (-1)])), (a0, .inr (6, [.ref a3, .int 0, .ref a11, .ref a12, .ref a13])), (a4, .inr (0, [.int 0, .int 0, .int 0, .int 0, .int 0, .int 0, .long 0, .ref a14, .ref a15, .ref a16, .ref a1, .ref a17, .ref a18, .ref a19]))]) hP hD [0, 1, 2, 3] [] rfl rfl (by decide) (by decide) hk1 hFc hP1 hD1
  have hK := (hK.sub (tys' := []) [] rfl).app hK1
  generalize H1 = H at hP hS ⊢
  have hP : va_P (dC, dI) CL [(a1, .inr (5, [.ref a2, .int 0])), (a3, .inr (2, [.ref a4, .ref a5, .ref a6, .ref a7, .ref a8, .int 0, .int 0, .ref a9, .ref a10, .long 0, .int 0, .int 0, .int 0, .int (-1)])), (a0, .inr (6, [.ref a3, .int 0, .ref a11, .ref a12, .ref a13])), (a4, .inr (0, [.int 0, .int 0, .int 0, .int 0, .int 0, .int 0, .long 0, .ref a14, .ref a15, .ref a16, .ref a1, .ref a17, .ref a18, .ref a19]))] H := hP
  have hD : va_D A [(a1, .inr (5, [.ref a2, .int 0])), (a3, .inr (2, [.ref a4, .ref a5, .ref a6, .ref a7, .ref a8, .int 0, .int 0, .ref a9, .ref a10, .long 0, .int 0, .int 0, .int 0, .int (-1)])), (a0, .inr (6, [.ref a3, .int 0, .ref a11, .ref a12, .ref a13])), (a4, .inr (0, [.int 0, .int 0, .int 0, .int 0, .int 0, .int 0, .long 0, .ref a14, .ref a15, .ref a16, .ref a1, .ref a17, .ref a18, .ref a19]))] := hD
  have hK : va_K (dC, dI) CL [] s := hK
  subst hw
  refine lv_if_eq (tgt := 81) hx hb dX6_cheapest_70 (by decide) (fun h => absurd h (by decide)) (fun _ => ?_)
  refine lv_iload hx hb dX6_cheapest_73 (lv_at hl 1 rfl) ?_
  refine lv_istore (lv' := [(4, .int 0), (7, .int 0), (6, .int 0), (5, .int 0), (2, .long 0), (0, .ref a0), (1, .int 0)]) hx hb dX6_cheapest_75 hl (by decide) rfl (fun ls hl => ?_)
  refine lv_iload hx hb dX6_cheapest_77 (lv_at hl 1 rfl) ?_
  refine lv_istore (lv' := [(5, .int 0), (4, .int 0), (7, .int 0), (6, .int 0), (2, .long 0), (0, .ref a0), (1, .int 0)]) hx hb dX6_cheapest_79 hl (by decide) rfl (fun ls hl => ?_)
  refine lv_iinc (v := 1) (lv' := [(6, .int 1), (5, .int 0), (4, .int 0), (7, .int 0), (2, .long 0), (0, .ref a0), (1, .int 0)]) hx hb dX6_cheapest_81 hl (k := 3) rfl (by decide) (by decide) rfl (fun ls hl => ?_)
  refine lv_goto (tgt := 22) hx hb dX6_cheapest_84 (by decide) ?_
  refine lv_iload hx hb dX6_cheapest_22 (lv_at hl 0 rfl) ?_
  refine lv_iconst (v := 1) hx hb dX6_cheapest_24 (by decide) ?_
  refine lv_aload_n hx hb dX6_cheapest_25 rfl (lv_at hl 5 rfl) ?_
  refine va_get (D := (dC, dI)) (ci := 6) (v := .ref a3) (C := RX6) (T := TX6) (N := 5) hx hb hts iwX6 hown hK hP 2 rfl rfl 0 (by decide) (hts _ mw_497) (fun _ h9 => h9) rfl dX6_cheapest_26 ?_
  refine va_get (D := (dC, dI)) (ci := 2) (v := .ref a4) (C := RX2) (T := TX2) (N := 14) hx hb hts iwX2 hown hK hP 1 rfl rfl 0 (by decide) (hts _ mw_439) (fun _ h9 => h9) rfl dX6_cheapest_29 ?_
  refine va_get (D := (dC, dI)) (ci := 0) (v := .ref a1) (C := RX0) (T := TX0) (N := 14) hx hb hts iwX0 hown hK hP 3 rfl rfl 10 (by decide) (hts _ mw_267) (fun _ h9 => h9) rfl dX6_cheapest_32 ?_
  refine va_get (D := (dC, dI)) (ci := 5) (v := .int 0) (C := RX5) (T := TX5) (N := 2) hx hb hts iwX5 hown hK hP 0 rfl rfl 1 (by decide) (hts _ mw_146) (fun _ h9 => h9) rfl dX6_cheapest_35 ?_
  refine lv_ishl hx hb dX6_cheapest_38 ?_
  refine x_lit 1 (by decide) ?_
  refine lv_icmp_ge (tgt := 87) hx hb dX6_cheapest_39 (by decide) (fun _ => ?_) (fun h => (h (by decide)).elim)
  refine lv_iload hx hb dX6_cheapest_87 (lv_at hl 2 rfl) ?_
  refine W.widen (k := 0) (n := 0) (Nat.le_of_ble_eq_true rfl) (Nat.le_of_ble_eq_true rfl) ?_
  have hP9 := hP.sub (ws' := [(a1, .inr (5, [.ref a2, .int 0])), (a3, .inr (2, [.ref a4, .ref a5, .ref a6, .ref a7, .ref a8, .int 0, .int 0, .ref a9, .ref a10, .long 0, .int 0, .int 0, .int 0, .int (-1)])), (a0, .inr (6, [.ref a3, .int 0, .ref a11, .ref a12, .ref a13])), (a4, .inr (0, [.int 0, .int 0, .int 0, .int 0, .int 0, .int 0, .long 0, .ref a14, .ref a15, .ref a16, .ref a1, .ref a17, .ref a18, .ref a19]))]) [0, 1, 2, 3] rfl
  have hD9 := hD.sub (ws' := [(a1, .inr (5, [.ref a2, .int 0])), (a3, .inr (2, [.ref a4, .ref a5, .ref a6, .ref a7, .ref a8, .int 0, .int 0, .ref a9, .ref a10, .long 0, .int 0, .int 0, .int 0, .int (-1)])), (a0, .inr (6, [.ref a3, .int 0, .ref a11, .ref a12, .ref a13])), (a4, .inr (0, [.int 0, .int 0, .int 0, .int 0, .int 0, .int 0, .long 0, .ref a14, .ref a15, .ref a16, .ref a1, .ref a17, .ref a18, .ref a19]))]) [0, 1, 2, 3] (by decide) rfl
  have hK9 := hK.sub (tys' := []) [] rfl
  exact W.iret (v := 0) hx hb hr (fun t ht hW => ⟨⟨0, (), rfl, rfl, by rw [ht]; exact hP9, va_K.moved hW.alike hK9, hD9⟩, hS.F ht⟩) hS.2.2 dX6_cheapest_89
set_option maxHeartbeats 4000000 in
set_option maxRecDepth 100000 in
theorem zX9_eitherOf_2 (l : Launch) (dC : Nat → ClassId) (dI : Nat → Nat → Nat) (adK adV : Nat → Nat) (sz : Nat) (p0 : Int32) : Met l yX9_eitherOf (Cond.code yX9_eitherOf cX9_eitherOf 3 (some .int) :: TB) ({ frames := 1, cells := 0, slots := 0, locals := 100 }) (XP (dC, dI) adK adV [.int p0, .int 0, .int 0] sz [] []) (va_Qi (fun (r : Int32) (_ : Unit) => (r = 0 ∧ p0 = 0) ∨ (r = 0 ∧ p0 = 1) ∨ (r = (-1) ∧ ¬ p0 = 0 ∧ ¬ p0 = 1)) (fun _ t => va_P (dC, dI) CL [] t.heap ∧ va_K (dC, dI) CL [] t ∧ va_D (va_A [] sz) []) (va_A [] sz)) 0 0 (va_A [] sz) := by
  refine Met.ofW (cc := cX9_eitherOf) (maxL := 3) (ret := (some .int)) (by decide) rfl ?_
  intro p e s m args below meth c s₁ B hml hv
  obtain ⟨rfl, hsz, hP, hK, hD0, hC⟩ := hv
  have hx := B.exec
  have hb := B.bytes
  have hr := B.returns
  have hts0 := atoms_spec (ws := Cond.code yX9_eitherOf cX9_eitherOf 3 (some .int) :: TB) B.pre
  have hts : ∀ w ∈ TB, w.before _ s = true := fun w h => hts0 w (List.mem_cons_of_mem _ h)
  have hown : s.vm.findClass RX9 = some m.cls := findClass_of_methodNamed B.named
  have hlocks := B.notSynchronized
  subst hsz
  have hD := hD0.self (sz := s.heap.size)
  generalize hAe : va_A [] s.heap.size = A at hD hC ⊢
  have hA : ∀ q : Nat, s.heap.size ≤ q → A q := fun q h => by rw [← hAe]; exact Or.inr h
  have hl := lv_entry ([.int p0, .int 0, .int 0]) (n := 3) (Nat.le_of_ble_eq_true rfl)
  rw [lg_entry_eq]
  generalize (lg_sl ([.int p0, .int 0, .int 0]) ++ List.replicate (3 - (lg_sl ([.int p0, .int 0, .int 0])).length) Slot.unset).toArray = ls at hl ⊢
  have hl : lv_has ls 3 [(0, .int p0), (1, .int 0), (2, .int 0)] := hl
  have hP : va_P (dC, dI) CL [] s.heap := hP
  obtain ⟨H, hH⟩ : ∃ z, z = s.heap := ⟨_, rfl⟩
  rw [← hH] at hP ⊢
  have hS : va_S A s.heap H [] := by rw [hH]; exact va_S.rf
  refine lv_iload_n hx hb dX9_eitherOf_0 rfl (lv_at hl 0 rfl) ?_
  by_cases h_1 : p0 = 0
  · subst h_1
    refine lv_lookup (tgt := 28) hx hb dX9_eitherOf_1 (by decide) (off := 27) (by decide) (by decide) ?_
    refine lv_iload_n hx hb dX9_eitherOf_28 rfl (lv_at hl 1 rfl) ?_
    refine W.widen (k := 0) (n := 0) (Nat.le_of_ble_eq_true rfl) (Nat.le_of_ble_eq_true rfl) ?_
    have hP9 := hP.sub (ws' := []) [] rfl
    have hD9 := hD.sub (ws' := []) [] (by decide) rfl
    have hK9 := hK.sub (tys' := []) [] rfl
    exact W.iret (v := 0) hx hb hr (fun t ht hW => ⟨⟨0, (), rfl, (Or.inl ⟨rfl, rfl⟩), by rw [ht]; exact hP9, va_K.moved hW.alike hK9, hD9⟩, hS.F ht⟩) hS.2.2 dX9_eitherOf_29
  by_cases h_2 : p0 = 1
  · subst h_2
    refine lv_lookup (tgt := 30) hx hb dX9_eitherOf_1 (by decide) (off := 29) (by decide) (by decide) ?_
    refine lv_iload_n hx hb dX9_eitherOf_30 rfl (lv_at hl 2 rfl) ?_
    refine W.widen (k := 0) (n := 0) (Nat.le_of_ble_eq_true rfl) (Nat.le_of_ble_eq_true rfl) ?_
    have hP9 := hP.sub (ws' := []) [] rfl
    have hD9 := hD.sub (ws' := []) [] (by decide) rfl
    have hK9 := hK.sub (tys' := []) [] rfl
    exact W.iret (v := 0) hx hb hr (fun t ht hW => ⟨⟨0, (), rfl, (Or.inr (Or.inl ⟨rfl, rfl⟩)), by rw [ht]; exact hP9, va_K.moved hW.alike hK9, hD9⟩, hS.F ht⟩) hS.2.2 dX9_eitherOf_31
  refine lv_lookup (tgt := 32) hx hb dX9_eitherOf_1 (by decide) (off := 31) ((lv_osw (k := 0) h_1 (by decide)).trans ((lv_osw (k := 1) h_2 (by decide)).trans rfl)) (by decide) ?_
  refine lv_iconst (v := (-1)) hx hb dX9_eitherOf_32 (by decide) ?_
  refine W.widen (k := 0) (n := 0) (Nat.le_of_ble_eq_true rfl) (Nat.le_of_ble_eq_true rfl) ?_
  have hP9 := hP.sub (ws' := []) [] rfl
  have hD9 := hD.sub (ws' := []) [] (by decide) rfl
  have hK9 := hK.sub (tys' := []) [] rfl
  exact W.iret (v := (-1)) hx hb hr (fun t ht hW => ⟨⟨(-1), (), rfl, (Or.inr (Or.inr (⟨rfl, h_1, h_2⟩))), by rw [ht]; exact hP9, va_K.moved hW.alike hK9, hD9⟩, hS.F ht⟩) hS.2.2 dX9_eitherOf_33
