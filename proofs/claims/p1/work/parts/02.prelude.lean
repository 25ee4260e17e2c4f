theorem iwX0 : ∀ w ∈ wsX00, w ∈ TB := by decide +kernel
theorem iwX1 : ∀ w ∈ wsX10, w ∈ TB := by decide +kernel
theorem iwX2 : ∀ w ∈ wsX20, w ∈ TB := by decide +kernel
theorem iwX3 : ∀ w ∈ wsX30, w ∈ TB := by decide +kernel
theorem iwX4 : ∀ w ∈ wsX40, w ∈ TB := by decide +kernel
theorem iwX5 : ∀ w ∈ wsX50, w ∈ TB := by decide +kernel
theorem iwX6 : ∀ w ∈ wsX60, w ∈ TB := by decide +kernel
theorem iwX7 : ∀ w ∈ wsX70, w ∈ TB := by decide +kernel
theorem iwX8 : ∀ w ∈ wsX80, w ∈ TB := by decide +kernel
theorem iwX9 : ∀ w ∈ wsX90, w ∈ TB := by decide +kernel
theorem iwX10 : ∀ w ∈ wsX100, w ∈ TB := by decide +kernel
theorem tb_good : GoodIn TB TB := fun w h => ⟨h, good_of_word (List.mem_filter.mp h).2⟩
theorem tb_code {c : Cond} (h : c ∈ TB) : GoodIn TB (c :: TB) := fun w hw => (List.mem_cons.mp hw).elim (fun e => e ▸ tb_good c h) (tb_good w)
theorem tb_app {a b : List Cond} (ha : ∀ w ∈ a, w ∈ TB) (hb : GoodIn TB b) : GoodIn TB (a ++ b) := fun w h => (List.mem_append.mp h).elim (fun h => tb_good w (ha w h)) (hb w)
theorem tb_V {own C : String} {idx : Nat} {y : MethodName} {c : Cond} (h1 : Cond.methodLink own idx y ∈ TB) (h2 : Cond.instanceMethod y ∈ TB) (h3 : Cond.selects C y y ∈ TB) (h4 : Cond.initialized C ∈ TB) (h5 : c ∈ TB) : GoodIn TB (wsV own idx C y (c :: TB)) := by
  unfold wsV
  refine tb_app ?_ (tb_code h5)
  intro w hw
  simp only [List.mem_cons, List.not_mem_nil, or_false] at hw
  rcases hw with rfl | rfl | rfl | rfl <;> assumption
theorem tb_S {own : String} {idx : Nat} {y : MethodName} {c : Cond} (h1 : Cond.methodLink own idx y ∈ TB) (h2 : Cond.static y ∈ TB) (h4 : Cond.initialized y.cls ∈ TB) (h5 : c ∈ TB) : GoodIn TB (va_wsS own idx y (c :: TB)) := by
  unfold va_wsS
  refine tb_app ?_ (tb_code h5)
  intro w hw
  simp only [List.mem_cons, List.not_mem_nil, or_false] at hw
  rcases hw with rfl | rfl | rfl <;> assumption
def lenS : List Nat := [2, 26, 10, 11, 117]
def bytS : List (List Int32) := [[32, 10], [97, 98, 99, 100, 101, 102, 103, 104, 105, 106, 107, 108, 109, 110, 111, 112, 113, 114, 115, 116, 117, 118, 119, 120, 121, 122], [48, 49, 50, 51, 52, 53, 54, 55, 56, 57], [59, 40, 41, 60, 62, 61, 43, 45, 42, 47, 37], [115, 99, 101, 110, 101, 32, 98, 121, 32, 109, 105, 110, 117, 116, 101, 115, 32, 119, 97, 108, 108, 32, 97, 116, 32, 102, 111, 103, 32, 102, 97, 114, 32, 116, 104, 105, 110, 103, 32, 100, 101, 101, 100, 32, 105, 110, 32, 119, 105, 116, 110, 101, 115, 115, 32, 108, 111, 111, 107, 115, 32, 108, 101, 102, 116, 32, 114, 105, 103, 104, 116, 32, 117, 112, 32, 100, 111, 119, 110, 32, 102, 114, 111, 109, 32, 116, 111, 32, 102, 101, 101, 32, 108, 97, 119, 32, 111, 114, 32, 97, 110, 100, 32, 110, 111, 116, 32, 115, 101, 101, 115, 32, 99, 101, 108, 108, 115]]
/-- what is the same at every call: nest words, constant texts, two statics -/
def XC (adK adV : Nat → Nat) (A : Nat → Prop) (U : State) (H : Heap) : Prop := va_Nw (.methodLinkNest RX0 64 yX3_init "HalfCourt") U ∧ va_Nw (.methodLinkNest RX0 69 yX4_init "HalfCourt") U ∧ va_Nw (.methodLinkNest RX1 20 yX4_init "HalfCourt") U ∧ va_Nw (.methodLinkNest RX2 23 yX4_init "HalfCourt") U ∧ va_Nw (.methodLinkNest RX9 54 yX7_init "HalfCourt") U ∧ va_Nw (.methodLinkNest RX6 35 yX9_pairsOf "HalfCourt") U ∧ va_AO RX4 U ∧ va_AO RX7 U ∧ vk_R RX8 43 " \n" (adK 0) U ∧ vk_R RX8 49 "abcdefghijklmnopqrstuvwxyz" (adK 1) U ∧ vk_R RX8 51 "0123456789" (adK 2) U ∧ vk_R RX8 53 ";()<>=+-*/%" (adK 3) U ∧ vk_R RX8 55 "scene by minutes wall at fog far thing deed in witness looks left right up down from to fee law or and not sees cells" (adK 4) U ∧ va_Z "java/lang/String" "COMPACT_STRINGS" "Z" (.int 1) A U H ∧ va_Zq "jdk/internal/util/Preconditions" "SIOOBE_FORMATTER" "Ljava/util/function/BiFunction;" A U H ∧ vk_S 5 lenS bytS adK adV A U H
section XCS
variable {adK adV : Nat → Nat} {A A2 : Nat → Prop} {s U : State} {H : Heap}
theorem XC.p0 (h : XC adK adV A U H) : va_Nw (.methodLinkNest RX0 64 yX3_init "HalfCourt") U := h.1
theorem XC.p1 (h : XC adK adV A U H) : va_Nw (.methodLinkNest RX0 69 yX4_init "HalfCourt") U := h.2.1
theorem XC.p2 (h : XC adK adV A U H) : va_Nw (.methodLinkNest RX1 20 yX4_init "HalfCourt") U := h.2.2.1
theorem XC.p3 (h : XC adK adV A U H) : va_Nw (.methodLinkNest RX2 23 yX4_init "HalfCourt") U := h.2.2.2.1
theorem XC.p4 (h : XC adK adV A U H) : va_Nw (.methodLinkNest RX9 54 yX7_init "HalfCourt") U := h.2.2.2.2.1
theorem XC.p5 (h : XC adK adV A U H) : va_Nw (.methodLinkNest RX6 35 yX9_pairsOf "HalfCourt") U := h.2.2.2.2.2.1
theorem XC.p6 (h : XC adK adV A U H) : va_AO RX4 U := h.2.2.2.2.2.2.1
theorem XC.p7 (h : XC adK adV A U H) : va_AO RX7 U := h.2.2.2.2.2.2.2.1
theorem XC.p8 (h : XC adK adV A U H) : vk_R RX8 43 " \n" (adK 0) U := h.2.2.2.2.2.2.2.2.1
theorem XC.p9 (h : XC adK adV A U H) : vk_R RX8 49 "abcdefghijklmnopqrstuvwxyz" (adK 1) U := h.2.2.2.2.2.2.2.2.2.1
theorem XC.p10 (h : XC adK adV A U H) : vk_R RX8 51 "0123456789" (adK 2) U := h.2.2.2.2.2.2.2.2.2.2.1
theorem XC.p11 (h : XC adK adV A U H) : vk_R RX8 53 ";()<>=+-*/%" (adK 3) U := h.2.2.2.2.2.2.2.2.2.2.2.1
theorem XC.p12 (h : XC adK adV A U H) : vk_R RX8 55 "scene by minutes wall at fog far thing deed in witness looks left right up down from to fee law or and not sees cells" (adK 4) U := h.2.2.2.2.2.2.2.2.2.2.2.2.1
theorem XC.p13 (h : XC adK adV A U H) : va_Z "java/lang/String" "COMPACT_STRINGS" "Z" (.int 1) A U H := h.2.2.2.2.2.2.2.2.2.2.2.2.2.1
theorem XC.p14 (h : XC adK adV A U H) : va_Zq "jdk/internal/util/Preconditions" "SIOOBE_FORMATTER" "Ljava/util/function/BiFunction;" A U H := h.2.2.2.2.2.2.2.2.2.2.2.2.2.2.1
theorem XC.p15 (h : XC adK adV A U H) : vk_S 5 lenS bytS adK adV A U H := h.2.2.2.2.2.2.2.2.2.2.2.2.2.2.2
theorem XC.same (hv : s.vm = U.vm) (h : XC adK adV A s H) : XC adK adV A U H := by
  obtain ⟨h0, h1, h2, h3, h4, h5, h6, h7, h8, h9, h10, h11, h12, h13, h14, h15⟩ := h
  exact ⟨va_Nw.same (by rfl) hv h0, va_Nw.same (by rfl) hv h1, va_Nw.same (by rfl) hv h2, va_Nw.same (by rfl) hv h3, va_Nw.same (by rfl) hv h4, va_Nw.same (by rfl) hv h5, va_AO.moved (by rw [hv]; exact Vm.Alike.refl _) h6, va_AO.moved (by rw [hv]; exact Vm.Alike.refl _) h7, vk_R.same hv.symm h8, vk_R.same hv.symm h9, vk_R.same hv.symm h10, vk_R.same hv.symm h11, vk_R.same hv.symm h12, va_Z.moved (by rw [hv]; exact Vm.Alike.refl _) h13, va_Zq.moved (by rw [hv]; exact Vm.Alike.refl _) h14, vk_S.moved (by rw [hv]; exact Vm.Alike.refl _) h15⟩
theorem XC.pass {locs : List Loc} (h : XC adK adV A s s.heap) (hS : va_S A s.heap H locs) (hA : ∀ q, A2 q → A q) (hW : s.WarmedH U.vm) : XC adK adV A2 U H := by
  obtain ⟨h0, h1, h2, h3, h4, h5, h6, h7, h8, h9, h10, h11, h12, h13, h14, h15⟩ := h
  have hk := hS.2.1
  exact ⟨va_Nw.warmM hW h0, va_Nw.warmM hW h1, va_Nw.warmM hW h2, va_Nw.warmM hW h3, va_Nw.warmM hW h4, va_Nw.warmM hW h5, va_AO.moved hW.alike h6, va_AO.moved hW.alike h7, vk_R.warm hW h8, vk_R.warm hW h9, vk_R.warm hW h10, vk_R.warm hW h11, vk_R.warm hW h12, ((va_Z.kept h13 hk).narrow hA).moved hW.alike, ((va_Zq.kept h14 hk).narrow hA).moved hW.alike, ((vk_S.kept h15 hk).narrow hA).moved hW.alike⟩
end XCS
/-- every contract's start -/
def XP (D : va_G) (adK adV : Nat → Nat) (av : List Value) (sz : Nat) (ws : va_W) (tys : List (ClassId × FieldType)) : Array Value → State → Prop := va_Pc av (fun U => U.heap.size = sz ∧ va_P D CL ws U.heap ∧ va_K D CL tys U ∧ va_D (fun _ => True) ws ∧ XC adK adV (va_A ws sz) U U.heap)
theorem XB {D : va_G} {adK adV : Nat → Nat} {av : List Value} {sz : Nat} {ws : va_W} {tys : List (ClassId × FieldType)} : FrameBlind (XP D adK adV av sz ws tys) := fun a U g mk q => by
  obtain ⟨q0, q1, qP, qK, qD, qC⟩ := q
  exact ⟨q0, q1, qP, va_K.moved (u := U) (U := U.calling g mk a) (Vm.Alike.refl U.vm) qK, qD, XC.same (s := U) (U := U.calling g mk a) rfl qC⟩
theorem XQ {D : va_G} {adK adV : Nat → Nat} {av : List Value} {s : State} {A : Nat → Prop} {H : Heap} {locs : List Loc} {ws : va_W} {tys : List (ClassId × FieldType)} (hP : va_P D CL ws H) (hK : va_K D CL tys s) (hD : va_D A ws) (hC : XC adK adV A s s.heap) (hS : va_S A s.heap H locs) (hF : ∀ q, va_A ws H.size q → A q) : ∀ U : State, U.heap = H → s.WarmedH U.vm → XP D adK adV av H.size ws tys av.toArray U := fun U hU hW => by
  subst hU
  exact ⟨rfl, rfl, hP, va_K.moved hW.alike hK, hD.weaken (fun _ _ _ _ => trivial), XC.pass hC hS hF hW⟩
theorem upc {c : Int32} (k : Nat) : upd (fun _ => c) k c = fun _ => c := by funext j; simp [upd]
theorem lt_i {x y : Int32} (h : x < y) : x.toInt < y.toInt := Int32.lt_iff_toInt_lt.mp h
theorem nlt_i {x y : Int32} (h : ¬ x < y) : ¬ x.toInt < y.toInt := fun q => h (Int32.lt_iff_toInt_lt.mpr q)
theorem le_i {x y : Int32} (h : x ≤ y) : x.toInt ≤ y.toInt := Int32.le_iff_toInt_le.mp h
theorem nle_i {x y : Int32} (h : ¬ x ≤ y) : ¬ x.toInt ≤ y.toInt := fun q => h (Int32.le_iff_toInt_le.mpr q)
theorem eq_i {x y : Int32} (h : x = y) : x.toInt = y.toInt := congrArg _ h
theorem ne_i {x y : Int32} (h : ¬ x = y) : ¬ x.toInt = y.toInt := fun q => h (Int32.toInt_inj.mp q)
theorem x_vp {i : Int32} {N k : Nat} (h : i.toNatClampNeg = k) (h0 : ¬ i < 0) (hk : k < N) : vp_in i N := by
  rintro (q | q)
  · exact h0 q
  · omega
theorem xi_m1 : ((-1) : Int32).toInt = (-1) := by decide
theorem xi_0 : (0 : Int32).toInt = 0 := by decide
theorem xi_1 : (1 : Int32).toInt = 1 := by decide
theorem xi_2 : (2 : Int32).toInt = 2 := by decide
theorem xi_3 : (3 : Int32).toInt = 3 := by decide
theorem xi_4 : (4 : Int32).toInt = 4 := by decide
theorem xi_5 : (5 : Int32).toInt = 5 := by decide
theorem xi_6 : (6 : Int32).toInt = 6 := by decide
theorem xi_7 : (7 : Int32).toInt = 7 := by decide
theorem xi_8 : (8 : Int32).toInt = 8 := by decide
theorem xi_9 : (9 : Int32).toInt = 9 := by decide
theorem xi_10 : (10 : Int32).toInt = 10 := by decide
theorem xi_12 : (12 : Int32).toInt = 12 := by decide
theorem xi_25 : (25 : Int32).toInt = 25 := by decide
theorem xi_36 : (36 : Int32).toInt = 36 := by decide
theorem xi_144 : (144 : Int32).toInt = 144 := by decide
theorem xi_1000 : (1000 : Int32).toInt = 1000 := by decide
theorem xi_1680 : (1680 : Int32).toInt = 1680 := by decide
theorem xi_1700 : (1700 : Int32).toInt = 1700 := by decide
theorem xi_100000 : (100000 : Int32).toInt = 100000 := by decide
section XR
variable {p : Program} {l : Launch} {e : Env} {R : Room} {s : State} {m : MethodId} {args : Array Value} {below : List Frame} {meth : Method} {c : Code} {H : Heap} {locs : List Loc} {cells slots : Nat} {Q : State → Prop}
variable {cc : ByteArray} {pc : Nat} {ls : Array Slot} {rest : List Value} {D : va_G} {A : Nat → Prop} {a : Nat} {tys : List (ClassId × FieldType)} {ws : va_W} {H0 : Heap}
theorem x_lit {x : Int32} (y : Int32) (h : x = y) (k : W p l e R s m args below meth c H locs cells slots Q (F0 m pc ls (.int y :: rest))) : W p l e R s m args below meth c H locs cells slots Q (F0 m pc ls (.int x :: rest)) := h ▸ k
theorem x_litL {x : Int64} (y : Int64) (h : x = y) (k : W p l e R s m args below meth c H locs cells slots Q (F0 m pc ls (.long y :: rest))) : W p l e R s m args below meth c H locs cells slots Q (F0 m pc ls (.long x :: rest)) := h ▸ k
theorem x_iald (hx : p.tables.exec = Jvm.exec) (hb : c.code = cc) (hK : va_K D CL tys s) (hP : va_P D CL ws H) (q0 t0 : Nat) {cA : ClassId} {n : Nat} {f : Nat → Int32} (ha : ws[q0]? = some (a, .inl (cA, n, .inl f))) (ht : tys[t0]? = some (cA, .int)) {i : Int32} {k : Nat} (hk : i.toNatClampNeg = k) (h0 : ¬ i < 0) (hn : k < n) {v : Int32} (hv : f k = v) (hdg : decode cc pc = .ok (.iaload, 1))
    (kk : W p l e R s m args below meth c H locs cells slots Q (F0 m (pc + 1) ls (.int v :: rest))) : W p l e R s m args below meth c H locs cells slots Q (F0 m pc ls (.int i :: .ref a :: rest)) := by
  subst hv; subst hk
  exact va_iald hx hb hK hP q0 t0 ha ht (x_vp rfl h0 hn) hdg kk
theorem x_zald (hx : p.tables.exec = Jvm.exec) (hb : c.code = cc) (hK : va_K D CL tys s) (hP : va_P D CL ws H) (q0 t0 : Nat) {cA : ClassId} {n : Nat} {f : Nat → Int32} (ha : ws[q0]? = some (a, .inl (cA, n, .inl f))) (ht : tys[t0]? = some (cA, .boolean)) {i : Int32} {k : Nat} (hk : i.toNatClampNeg = k) (h0 : ¬ i < 0) (hn : k < n) {v : Int32} (hv : f k = v) (hdg : decode cc pc = .ok (.baload, 1))
    (kk : W p l e R s m args below meth c H locs cells slots Q (F0 m (pc + 1) ls (.int v :: rest))) : W p l e R s m args below meth c H locs cells slots Q (F0 m pc ls (.int i :: .ref a :: rest)) := by
  subst hv; subst hk
  exact va_zald hx hb hK hP q0 t0 ha ht (x_vp rfl h0 hn) hdg kk
theorem x_bald (hx : p.tables.exec = Jvm.exec) (hb : c.code = cc) (hK : va_K D CL tys s) (hP : va_P D CL ws H) (q0 t0 : Nat) {cA : ClassId} {n : Nat} {f : Nat → Int32} (ha : ws[q0]? = some (a, .inl (cA, n, .inl f))) (ht : tys[t0]? = some (cA, .byte)) {i : Int32} {k : Nat} (hk : i.toNatClampNeg = k) (h0 : ¬ i < 0) (hn : k < n) {v : Int32} (hv : f k = v) (hdg : decode cc pc = .ok (.baload, 1))
    (kk : W p l e R s m args below meth c H locs cells slots Q (F0 m (pc + 1) ls (.int v :: rest))) : W p l e R s m args below meth c H locs cells slots Q (F0 m pc ls (.int i :: .ref a :: rest)) := by
  subst hv; subst hk
  exact va_bald hx hb hK hP q0 t0 ha ht (x_vp rfl h0 hn) hdg kk
theorem x_lald (hx : p.tables.exec = Jvm.exec) (hb : c.code = cc) (hK : va_K D CL tys s) (hP : va_P D CL ws H) (q0 t0 : Nat) {cA : ClassId} {n : Nat} {f : Nat → Int64} (ha : ws[q0]? = some (a, .inl (cA, n, .inr (.inl f)))) (ht : tys[t0]? = some (cA, .long)) {i : Int32} {k : Nat} (hk : i.toNatClampNeg = k) (h0 : ¬ i < 0) (hn : k < n) {v : Int64} (hv : f k = v) (hdg : decode cc pc = .ok (.laload, 1))
    (kk : W p l e R s m args below meth c H locs cells slots Q (F0 m (pc + 1) ls (.long v :: rest))) : W p l e R s m args below meth c H locs cells slots Q (F0 m pc ls (.int i :: .ref a :: rest)) := by
  subst hv; subst hk
  exact va_lald hx hb hK hP q0 t0 ha ht (x_vp rfl h0 hn) hdg kk
theorem x_aldq (hx : p.tables.exec = Jvm.exec) (hb : c.code = cc) (hK : va_K D CL tys s) (hP : va_P D CL ws H) (q0 t0 : Nat) {cA : ClassId} {C : String} {n : Nat} {f : Nat → Option Nat} (ha : ws[q0]? = some (a, .inl (cA, n, .inr (.inr (.inr (.inr f)))))) (ht : tys[t0]? = some (cA, .object C)) {i : Int32} {k : Nat} (hk : i.toNatClampNeg = k) (h0 : ¬ i < 0) (hn : k < n) {v : Nat} (hv : f k = some v) (hdg : decode cc pc = .ok (.aaload, 1))
    (kk : W p l e R s m args below meth c H locs cells slots Q (F0 m (pc + 1) ls (.ref v :: rest))) : W p l e R s m args below meth c H locs cells slots Q (F0 m pc ls (.int i :: .ref a :: rest)) := by
  subst hk
  refine va_aldq hx hb hK hP q0 t0 ha ht (x_vp rfl h0 hn) hdg ?_
  rw [hv]
  exact kk
theorem x_astq (hx : p.tables.exec = Jvm.exec) (hb : c.code = cc) (hK : va_K D CL tys s) (hP : va_P D CL ws H) (hD : va_D A ws) (hS : va_S A H0 H locs) (q0 t0 qk ci : Nat) {cA : ClassId} {r : vw_C} {n v : Nat} {vs : List Value} {f : Nat → Option Nat} (ha : ws[q0]? = some (a, .inl (cA, n, .inr (.inr (.inr (.inr f)))))) (ht : tys[t0]? = some (cA, .object r.1)) (hv : ws[qk]? = some (v, .inr (ci, vs))) (hc : CL[ci]? = some r) {i : Int32} {k : Nat} (hk : i.toNatClampNeg = k) (h0 : ¬ i < 0) (hn : k < n) (hdg : decode cc pc = .ok (.aastore, 1))
    (kk : ∀ (H1 : Heap) (locs1 : List Loc), va_P D CL (ws.set q0 (a, .inl (cA, n, .inr (.inr (.inr (.inr (va_up f k (some v)))))))) H1 → va_D A (ws.set q0 (a, .inl (cA, n, .inr (.inr (.inr (.inr (va_up f k (some v)))))))) → va_S A H0 H1 locs1 → W p l e R s m args below meth c H1 locs1 cells slots Q (F0 m (pc + 1) ls rest)) : W p l e R s m args below meth c H locs cells slots Q (F0 m pc ls (.ref v :: .int i :: .ref a :: rest)) := by
  subst hk
  exact va_astq hx hb hK hP hD hS q0 t0 qk ci ha ht hv hc (x_vp rfl h0 hn) hdg kk
theorem x_iast (hx : p.tables.exec = Jvm.exec) (hb : c.code = cc) (hK : va_K D CL tys s) (hP : va_P D CL ws H) (hD : va_D A ws) (hS : va_S A H0 H locs) (q0 t0 : Nat) {cA : ClassId} {n : Nat} {f : Nat → Int32} (ha : ws[q0]? = some (a, .inl (cA, n, .inl f))) (ht : tys[t0]? = some (cA, .int)) {i : Int32} {x : Int32} {k : Nat} (hk : i.toNatClampNeg = k) (h0 : ¬ i < 0) (hn : k < n) (hdg : decode cc pc = .ok (.iastore, 1)) (f2 : Nat → Int32) (hf : upd f k x = f2)
    (kk : ∀ (H1 : Heap) (locs1 : List Loc), va_P D CL (ws.set q0 (a, .inl (cA, n, .inl f2))) H1 → va_D A (ws.set q0 (a, .inl (cA, n, .inl f2))) → va_S A H0 H1 locs1 → W p l e R s m args below meth c H1 locs1 cells slots Q (F0 m (pc + 1) ls rest)) : W p l e R s m args below meth c H locs cells slots Q (F0 m pc ls (.int x :: .int i :: .ref a :: rest)) := by
  subst hf; subst hk
  exact va_iast hx hb hK hP hD hS q0 t0 ha ht (x_vp rfl h0 hn) hdg kk
theorem xh_iast (hx : p.tables.exec = Jvm.exec) (hb : c.code = cc) (hK : va_K D CL tys s) (hP : va_P D CL ws H) (hD : va_D A ws) (hS : va_S A H0 H locs) (q0 t0 : Nat) {cA : ClassId} {n : Nat} {f : Nat → Int32} (ha : ws[q0]? = some (a, .inl (cA, n, .inl f))) (ht : tys[t0]? = some (cA, .int)) {i : Int32} {x : Int32} (hin : vp_in i n) (hdg : decode cc pc = .ok (.iastore, 1))
    (kk : ∀ (f2 : Nat → Int32) (H1 : Heap) (locs1 : List Loc), va_P D CL (ws.set q0 (a, .inl (cA, n, .inl f2))) H1 → va_D A (ws.set q0 (a, .inl (cA, n, .inl f2))) → va_S A H0 H1 locs1 → W p l e R s m args below meth c H1 locs1 cells slots Q (F0 m (pc + 1) ls rest)) : W p l e R s m args below meth c H locs cells slots Q (F0 m pc ls (.int x :: .int i :: .ref a :: rest)) :=
  va_iast hx hb hK hP hD hS q0 t0 ha ht hin hdg (kk _)
theorem x_bast (hx : p.tables.exec = Jvm.exec) (hb : c.code = cc) (hK : va_K D CL tys s) (hP : va_P D CL ws H) (hD : va_D A ws) (hS : va_S A H0 H locs) (q0 t0 : Nat) {cA : ClassId} {n : Nat} {f : Nat → Int32} (ha : ws[q0]? = some (a, .inl (cA, n, .inl f))) (ht : tys[t0]? = some (cA, .byte)) {i : Int32} {x : Int32} {k : Nat} (hk : i.toNatClampNeg = k) (h0 : ¬ i < 0) (hn : k < n) (hdg : decode cc pc = .ok (.bastore, 1)) (f2 : Nat → Int32) (hf : upd f k (vp_nar .byte x) = f2)
    (kk : ∀ (H1 : Heap) (locs1 : List Loc), va_P D CL (ws.set q0 (a, .inl (cA, n, .inl f2))) H1 → va_D A (ws.set q0 (a, .inl (cA, n, .inl f2))) → va_S A H0 H1 locs1 → W p l e R s m args below meth c H1 locs1 cells slots Q (F0 m (pc + 1) ls rest)) : W p l e R s m args below meth c H locs cells slots Q (F0 m pc ls (.int x :: .int i :: .ref a :: rest)) := by
  subst hf; subst hk
  exact va_bast hx hb hK hP hD hS q0 t0 ha ht (x_vp rfl h0 hn) hdg kk
theorem xh_bast (hx : p.tables.exec = Jvm.exec) (hb : c.code = cc) (hK : va_K D CL tys s) (hP : va_P D CL ws H) (hD : va_D A ws) (hS : va_S A H0 H locs) (q0 t0 : Nat) {cA : ClassId} {n : Nat} {f : Nat → Int32} (ha : ws[q0]? = some (a, .inl (cA, n, .inl f))) (ht : tys[t0]? = some (cA, .byte)) {i : Int32} {x : Int32} (hin : vp_in i n) (hdg : decode cc pc = .ok (.bastore, 1))
    (kk : ∀ (f2 : Nat → Int32) (H1 : Heap) (locs1 : List Loc), va_P D CL (ws.set q0 (a, .inl (cA, n, .inl f2))) H1 → va_D A (ws.set q0 (a, .inl (cA, n, .inl f2))) → va_S A H0 H1 locs1 → W p l e R s m args below meth c H1 locs1 cells slots Q (F0 m (pc + 1) ls rest)) : W p l e R s m args below meth c H locs cells slots Q (F0 m pc ls (.int x :: .int i :: .ref a :: rest)) :=
  va_bast hx hb hK hP hD hS q0 t0 ha ht hin hdg (kk _)
theorem x_zast (hx : p.tables.exec = Jvm.exec) (hb : c.code = cc) (hK : va_K D CL tys s) (hP : va_P D CL ws H) (hD : va_D A ws) (hS : va_S A H0 H locs) (q0 t0 : Nat) {cA : ClassId} {n : Nat} {f : Nat → Int32} (ha : ws[q0]? = some (a, .inl (cA, n, .inl f))) (ht : tys[t0]? = some (cA, .boolean)) {i : Int32} {x : Int32} {k : Nat} (hk : i.toNatClampNeg = k) (h0 : ¬ i < 0) (hn : k < n) (hdg : decode cc pc = .ok (.bastore, 1)) (f2 : Nat → Int32) (hf : upd f k (vp_nar .boolean x) = f2)
    (kk : ∀ (H1 : Heap) (locs1 : List Loc), va_P D CL (ws.set q0 (a, .inl (cA, n, .inl f2))) H1 → va_D A (ws.set q0 (a, .inl (cA, n, .inl f2))) → va_S A H0 H1 locs1 → W p l e R s m args below meth c H1 locs1 cells slots Q (F0 m (pc + 1) ls rest)) : W p l e R s m args below meth c H locs cells slots Q (F0 m pc ls (.int x :: .int i :: .ref a :: rest)) := by
  subst hf; subst hk
  exact va_zast hx hb hK hP hD hS q0 t0 ha ht (x_vp rfl h0 hn) hdg kk
theorem xh_zast (hx : p.tables.exec = Jvm.exec) (hb : c.code = cc) (hK : va_K D CL tys s) (hP : va_P D CL ws H) (hD : va_D A ws) (hS : va_S A H0 H locs) (q0 t0 : Nat) {cA : ClassId} {n : Nat} {f : Nat → Int32} (ha : ws[q0]? = some (a, .inl (cA, n, .inl f))) (ht : tys[t0]? = some (cA, .boolean)) {i : Int32} {x : Int32} (hin : vp_in i n) (hdg : decode cc pc = .ok (.bastore, 1))
    (kk : ∀ (f2 : Nat → Int32) (H1 : Heap) (locs1 : List Loc), va_P D CL (ws.set q0 (a, .inl (cA, n, .inl f2))) H1 → va_D A (ws.set q0 (a, .inl (cA, n, .inl f2))) → va_S A H0 H1 locs1 → W p l e R s m args below meth c H1 locs1 cells slots Q (F0 m (pc + 1) ls rest)) : W p l e R s m args below meth c H locs cells slots Q (F0 m pc ls (.int x :: .int i :: .ref a :: rest)) :=
  va_zast hx hb hK hP hD hS q0 t0 ha ht hin hdg (kk _)
theorem x_last (hx : p.tables.exec = Jvm.exec) (hb : c.code = cc) (hK : va_K D CL tys s) (hP : va_P D CL ws H) (hD : va_D A ws) (hS : va_S A H0 H locs) (q0 t0 : Nat) {cA : ClassId} {n : Nat} {f : Nat → Int64} (ha : ws[q0]? = some (a, .inl (cA, n, .inr (.inl f)))) (ht : tys[t0]? = some (cA, .long)) {i : Int32} {x : Int64} {k : Nat} (hk : i.toNatClampNeg = k) (h0 : ¬ i < 0) (hn : k < n) (hdg : decode cc pc = .ok (.lastore, 1)) (f2 : Nat → Int64) (hf : vp_updL f k x = f2)
    (kk : ∀ (H1 : Heap) (locs1 : List Loc), va_P D CL (ws.set q0 (a, .inl (cA, n, .inr (.inl f2)))) H1 → va_D A (ws.set q0 (a, .inl (cA, n, .inr (.inl f2)))) → va_S A H0 H1 locs1 → W p l e R s m args below meth c H1 locs1 cells slots Q (F0 m (pc + 1) ls rest)) : W p l e R s m args below meth c H locs cells slots Q (F0 m pc ls (.long x :: .int i :: .ref a :: rest)) := by
  subst hf; subst hk
  exact va_last hx hb hK hP hD hS q0 t0 ha ht (x_vp rfl h0 hn) hdg kk
theorem xh_last (hx : p.tables.exec = Jvm.exec) (hb : c.code = cc) (hK : va_K D CL tys s) (hP : va_P D CL ws H) (hD : va_D A ws) (hS : va_S A H0 H locs) (q0 t0 : Nat) {cA : ClassId} {n : Nat} {f : Nat → Int64} (ha : ws[q0]? = some (a, .inl (cA, n, .inr (.inl f)))) (ht : tys[t0]? = some (cA, .long)) {i : Int32} {x : Int64} (hin : vp_in i n) (hdg : decode cc pc = .ok (.lastore, 1))
    (kk : ∀ (f2 : Nat → Int64) (H1 : Heap) (locs1 : List Loc), va_P D CL (ws.set q0 (a, .inl (cA, n, .inr (.inl f2)))) H1 → va_D A (ws.set q0 (a, .inl (cA, n, .inr (.inl f2)))) → va_S A H0 H1 locs1 → W p l e R s m args below meth c H1 locs1 cells slots Q (F0 m (pc + 1) ls rest)) : W p l e R s m args below meth c H locs cells slots Q (F0 m pc ls (.long x :: .int i :: .ref a :: rest)) :=
  va_last hx hb hK hP hD hS q0 t0 ha ht hin hdg (kk _)
end XR
