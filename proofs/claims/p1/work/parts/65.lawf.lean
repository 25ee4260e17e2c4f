def WX (a : Nat) (q : Nat → Nat) (k : Nat → ClassId) (f : Nat → Nat → Int32) : va_W := [(a, .inr (9, [.ref (q 0), .int 0, .ref (q 1), .ref (q 2), .ref (q 3), .ref (q 4), .ref (q 5), .ref (q 6), .ref (q 7)])), ((q 0), .inl ((k 0), 1700, .inl (fun _ => 0))), ((q 1), .inr (0, [.int 0, .int 0, .int 0, .int 0, .int 0, .int 0, .long 0, .ref (q 8), .ref (q 9), .ref (q 10), .ref (q 11), .ref (q 12), .ref (q 13), .ref (q 14)])), ((q 9), .inr (5, [.ref (q 15), .int 0])), ((q 10), .inr (5, [.ref (q 16), .int 0])), ((q 11), .inr (5, [.ref (q 17), .int 0])), ((q 14), .inr (3, [.ref (q 18), .ref (q 19), .int 0, .int 0])), ((q 8), .inl ((k 1), 5, .inl (f 0))), ((q 12), .inl ((k 2), 160, .inl (f 1))), ((q 2), .inr (0, [.int 0, .int 0, .int 0, .int 0, .int 0, .int 0, .long 0, .ref (q 20), .ref (q 21), .ref (q 22), .ref (q 23), .ref (q 24), .ref (q 25), .ref (q 26)])), ((q 21), .inr (5, [.ref (q 27), .int 0])), ((q 22), .inr (5, [.ref (q 28), .int 0])), ((q 23), .inr (5, [.ref (q 29), .int 0])), ((q 26), .inr (3, [.ref (q 30), .ref (q 31), .int 0, .int 0])), ((q 20), .inl ((k 3), 5, .inl (f 2))), ((q 24), .inl ((k 4), 160, .inl (f 3))), ((q 3), .inr (1, [.ref (q 32), .ref (q 2), .ref (q 33), .int 0, .int (-1)])), ((q 32), .inr (8, [.ref (q 34), .ref (q 35), .ref (q 36), .int 0, .int 0, .int 0, .int 0, .int 0, .long 0])), ((q 33), .inr (4, [.int 0, .int 0, .int 0, .int 0, .int 0, .int 0])), ((q 4), .inr (2, [.ref (q 1), .ref (q 37), .ref (q 38), .ref (q 39), .ref (q 40), .int 0, .int 0, .ref (q 41), .ref (q 42), .long 0, .int 0, .int 0, .int 0, .int (-1)])), ((q 38), .inl ((k 5), 5, .inr (.inl (fun _ => 0)))), ((q 40), .inr (4, [.int 0, .int 0, .int 0, .int 0, .int 0, .int 0])), ((q 5), .inr (6, [.ref (q 4), .int 0, .ref (q 43), .ref (q 44), .ref (q 45)])), ((q 43), .inl ((k 6), 256, .inl (fun _ => 0))), ((q 44), .inl ((k 7), 256, .inl (fun _ => 0))), ((q 45), .inl ((k 8), 256, .inl (fun _ => 0))), ((q 6), .inr (7, [.ref (q 46), .ref (q 47), .ref (q 48), .ref (q 49), .ref (q 50), .ref (q 51), .int 0, .int 0, .int 0])), ((q 46), .inl ((k 9), 40, .inl (fun _ => 0))), ((q 47), .inl ((k 10), 40, .inl (fun _ => 0))), ((q 48), .inl ((k 11), 40, .inl (fun _ => 0))), ((q 49), .inl ((k 12), 40, .inl (fun _ => 0))), ((q 50), .inl ((k 13), 40, .inl (fun _ => 0))), ((q 51), .inl ((k 14), 40, .inl (fun _ => 0))), ((q 7), .inl ((k 15), 3, .inr (.inr (.inr (.inr (va_up (va_up (va_up (fun _ => none) 0 (some (q 52))) 1 (some (q 53))) 2 (some (q 54)))))))), ((q 52), .inr (7, [.ref (q 55), .ref (q 56), .ref (q 57), .ref (q 58), .ref (q 59), .ref (q 60), .int 0, .int 0, .int 0])), ((q 55), .inl ((k 16), 40, .inl (fun _ => 0))), ((q 56), .inl ((k 17), 40, .inl (fun _ => 0))), ((q 57), .inl ((k 18), 40, .inl (fun _ => 0))), ((q 58), .inl ((k 19), 40, .inl (fun _ => 0))), ((q 59), .inl ((k 20), 40, .inl (fun _ => 0))), ((q 60), .inl ((k 21), 40, .inl (fun _ => 0))), ((q 53), .inr (7, [.ref (q 61), .ref (q 62), .ref (q 63), .ref (q 64), .ref (q 65), .ref (q 66), .int 0, .int 0, .int 0])), ((q 61), .inl ((k 22), 40, .inl (fun _ => 0))), ((q 62), .inl ((k 23), 40, .inl (fun _ => 0))), ((q 63), .inl ((k 24), 40, .inl (fun _ => 0))), ((q 64), .inl ((k 25), 40, .inl (fun _ => 0))), ((q 65), .inl ((k 26), 40, .inl (fun _ => 0))), ((q 66), .inl ((k 27), 40, .inl (fun _ => 0))), ((q 54), .inr (7, [.ref (q 67), .ref (q 68), .ref (q 69), .ref (q 70), .ref (q 71), .ref (q 72), .int 0, .int 0, .int 0])), ((q 67), .inl ((k 28), 40, .inl (fun _ => 0))), ((q 68), .inl ((k 29), 40, .inl (fun _ => 0))), ((q 69), .inl ((k 30), 40, .inl (fun _ => 0))), ((q 70), .inl ((k 31), 40, .inl (fun _ => 0))), ((q 71), .inl ((k 32), 40, .inl (fun _ => 0))), ((q 72), .inl ((k 33), 40, .inl (fun _ => 0)))]
def YX (k : Nat → ClassId) : List (ClassId × FieldType) := [((k 0), .byte), ((k 1), .int), ((k 2), .int), ((k 3), .int), ((k 4), .int), ((k 5), .long), ((k 6), .int), ((k 7), .int), ((k 8), .int), ((k 9), .int), ((k 10), .int), ((k 11), .int), ((k 12), .int), ((k 13), .int), ((k 14), .int), ((k 15), .object RX7), ((k 16), .int), ((k 17), .int), ((k 18), .int), ((k 19), .int), ((k 20), .int), ((k 21), .int), ((k 22), .int), ((k 23), .int), ((k 24), .int), ((k 25), .int), ((k 26), .int), ((k 27), .int), ((k 28), .int), ((k 29), .int), ((k 30), .int), ((k 31), .int), ((k 32), .int), ((k 33), .int)]
def WM (d : Nat) (r : Nat → Nat) (h : Nat → ClassId) (u : Nat → Nat → Int32) : va_W := [((r 0), .inl ((h 0), 1720, .inl (fun _ => 0))), ((r 1), .inl ((h 1), 256, .inl (fun _ => 0))), ((r 2), .inl ((h 2), 256, .inl (fun _ => 0))), ((r 3), .inl ((h 3), 256, .inl (fun _ => 0))), ((r 4), .inl ((h 4), 3, .inl (upd (upd (upd (fun _ => 0) 0 (-1)) 1 (-1)) 2 (-1)))), ((r 5), .inl ((h 5), 3, .inl (fun _ => 0))), ((r 6), .inl ((h 6), 2, .inl (fun _ => 0))), ((r 7), .inl ((h 7), 2, .inl (fun _ => 0))), ((r 8), .inl ((h 8), 2, .inl (fun _ => 0))), ((r 9), .inl ((h 9), 2, .inl (fun _ => 0))), ((r 10), .inl ((h 10), 2, .inl (fun _ => 0))), ((r 11), .inl ((h 11), 2, .inl (fun _ => 0))), ((r 12), .inl ((h 12), 2, .inl (fun _ => 0))), ((r 13), .inl ((h 13), 2, .inl (fun _ => 0))), ((r 14), .inl ((h 14), 2, .inl (fun _ => 0))), ((r 15), .inl ((h 15), 10, .inl (u 0))), ((r 16), .inl ((h 16), 2880, .inl (u 1))), ((r 17), .inl ((h 17), 72, .inl (u 2))), ((r 18), .inl ((h 18), 2, .inl (fun _ => 0))), ((r 19), .inl ((h 19), 2, .inl (fun _ => 0))), ((r 20), .inl ((h 20), 2, .inl (fun _ => 0))), ((r 21), .inl ((h 21), 180, .inl (u 3))), ((r 22), .inl ((h 22), 8, .inl (u 4))), (d, .inr (10, [.ref (r 0), .ref (r 23), .int 0, .int 0, .int 0, .int (-1), .int 0, .int 0, .int 0, .int 0, .long 0, .ref (r 6), .ref (r 7), .ref (r 8), .ref (r 9), .ref (r 10), .ref (r 11), .ref (r 12), .ref (r 13), .ref (r 24), .ref (r 14), .ref (r 15), .ref (r 25), .ref (r 26), .ref (r 27), .ref (r 28), .ref (r 29), .ref (r 30), .ref (r 16), .ref (r 31), .ref (r 17), .ref (r 18), .ref (r 19), .ref (r 20), .ref (r 32), .ref (r 33), .ref (r 34), .ref (r 35), .ref (r 36), .ref (r 37), .ref (r 38), .ref (r 39), .int 0, .int 0, .int 0, .int 0, .int 0, .ref (r 40), .ref (r 41), .ref (r 21), .ref (r 42), .ref (r 43), .ref (r 22), .ref (r 44), .ref (r 45), .ref (r 46), .ref (r 47), .ref (r 48), .int 0, .int 0, .ref (r 49), .ref (r 1), .ref (r 2), .ref (r 3), .ref (r 4), .ref (r 5), .ref (r 50)])), ((r 24), .inl ((h 23), 2, .inl (fun _ => 0)))]
def YM (h : Nat → ClassId) : List (ClassId × FieldType) := [((h 0), .byte), ((h 1), .int), ((h 2), .int), ((h 3), .int), ((h 4), .int), ((h 5), .int), ((h 6), .int), ((h 7), .int), ((h 8), .int), ((h 9), .int), ((h 10), .int), ((h 11), .int), ((h 12), .int), ((h 13), .int), ((h 14), .int), ((h 15), .int), ((h 16), .int), ((h 17), .boolean), ((h 18), .boolean), ((h 19), .boolean), ((h 20), .boolean), ((h 21), .boolean), ((h 22), .int), ((h 23), .int)]
set_option maxHeartbeats 4000000 in
set_option maxRecDepth 100000 in
theorem law_s0 {p : Program} {l : Launch} {e : Env} {s : State} {m : MethodId} {below : List Frame} {meth : Method} {c : Code} {b : Nat} {xs : Nat → Int32} {A : Nat → Prop} {H : Heap} {locs : List Loc} {ls : Array Slot} {kc ks : Nat} (hx : p.tables.exec = Jvm.exec) (hb : c.code = code) (hr : meth.sig.returnType = ret) (hlocks : meth.locks = false) (hAd : A = fun q : Nat => s.heap.size ≤ q) (hX : va_X b 0 xs s s.heap) (hbl : b < s.heap.size) (hS : va_S A s.heap H locs) (h1 : kc ≤ 600000) (h2 : ks ≤ 7302250) (hl : lv_has ls 4 [(3, .int 0), (0, .ref b)]) : W p l e room_1 s m #[Value.ref b] below meth c H locs kc ks (lw_Z below #[Value.ref b] s) (F0 m 18 ls []) := by
  have hbA : ¬ A b := by rw [hAd]; exact Nat.not_le.mpr hbl
  refine lv_iload_n hx hb dL_law_18 rfl (lv_at hl 0 rfl) ?_
  refine lv_aload_n hx hb dL_law_19 rfl (lv_at hl 1 rfl) ?_
  refine va_slen hx hb hX hbl hbA hS dL_law_20 ?_
  refine x_lit 0 rfl ?_
  refine lv_bipush (v := 6) hx hb dL_law_21 (by decide) ?_
  refine lv_isub hx hb dL_law_23 ?_
  refine x_lit (-6) (by decide) ?_
  refine lv_icmp_gt (tgt := 1153) hx hb dL_law_24 (by decide) (fun _ => ?_) (fun h => (h (by decide)).elim)
  exact law_fin hx hb hr hlocks hAd hS h1 h2
set_option maxHeartbeats 4000000 in
set_option maxRecDepth 100000 in
theorem law_s1 {p : Program} {l : Launch} {e : Env} {s : State} {m : MethodId} {below : List Frame} {meth : Method} {c : Code} {b : Nat} {xs : Nat → Int32} {A : Nat → Prop} {H : Heap} {locs : List Loc} {ls : Array Slot} {kc ks : Nat} (hx : p.tables.exec = Jvm.exec) (hb : c.code = code) (hr : meth.sig.returnType = ret) (hlocks : meth.locks = false) (hAd : A = fun q : Nat => s.heap.size ≤ q) (hX : va_X b 1 xs s s.heap) (hbl : b < s.heap.size) (hS : va_S A s.heap H locs) (h1 : kc ≤ 600000) (h2 : ks ≤ 7302250) (hl : lv_has ls 4 [(3, .int 0), (0, .ref b)]) : W p l e room_1 s m #[Value.ref b] below meth c H locs kc ks (lw_Z below #[Value.ref b] s) (F0 m 18 ls []) := by
  have hbA : ¬ A b := by rw [hAd]; exact Nat.not_le.mpr hbl
  refine lv_iload_n hx hb dL_law_18 rfl (lv_at hl 0 rfl) ?_
  refine lv_aload_n hx hb dL_law_19 rfl (lv_at hl 1 rfl) ?_
  refine va_slen hx hb hX hbl hbA hS dL_law_20 ?_
  refine x_lit 1 rfl ?_
  refine lv_bipush (v := 6) hx hb dL_law_21 (by decide) ?_
  refine lv_isub hx hb dL_law_23 ?_
  refine x_lit (-5) (by decide) ?_
  refine lv_icmp_gt (tgt := 1153) hx hb dL_law_24 (by decide) (fun _ => ?_) (fun h => (h (by decide)).elim)
  exact law_fin hx hb hr hlocks hAd hS h1 h2
set_option maxHeartbeats 4000000 in
set_option maxRecDepth 100000 in
theorem law_s2 {p : Program} {l : Launch} {e : Env} {s : State} {m : MethodId} {below : List Frame} {meth : Method} {c : Code} {b : Nat} {xs : Nat → Int32} {A : Nat → Prop} {H : Heap} {locs : List Loc} {ls : Array Slot} {kc ks : Nat} (hx : p.tables.exec = Jvm.exec) (hb : c.code = code) (hr : meth.sig.returnType = ret) (hlocks : meth.locks = false) (hAd : A = fun q : Nat => s.heap.size ≤ q) (hX : va_X b 2 xs s s.heap) (hbl : b < s.heap.size) (hS : va_S A s.heap H locs) (h1 : kc ≤ 600000) (h2 : ks ≤ 7302250) (hl : lv_has ls 4 [(3, .int 0), (0, .ref b)]) : W p l e room_1 s m #[Value.ref b] below meth c H locs kc ks (lw_Z below #[Value.ref b] s) (F0 m 18 ls []) := by
  have hbA : ¬ A b := by rw [hAd]; exact Nat.not_le.mpr hbl
  refine lv_iload_n hx hb dL_law_18 rfl (lv_at hl 0 rfl) ?_
  refine lv_aload_n hx hb dL_law_19 rfl (lv_at hl 1 rfl) ?_
  refine va_slen hx hb hX hbl hbA hS dL_law_20 ?_
  refine x_lit 2 rfl ?_
  refine lv_bipush (v := 6) hx hb dL_law_21 (by decide) ?_
  refine lv_isub hx hb dL_law_23 ?_
  refine x_lit (-4) (by decide) ?_
  refine lv_icmp_gt (tgt := 1153) hx hb dL_law_24 (by decide) (fun _ => ?_) (fun h => (h (by decide)).elim)
  exact law_fin hx hb hr hlocks hAd hS h1 h2
set_option maxHeartbeats 4000000 in
set_option maxRecDepth 100000 in
theorem law_s3 {p : Program} {l : Launch} {e : Env} {s : State} {m : MethodId} {below : List Frame} {meth : Method} {c : Code} {b : Nat} {xs : Nat → Int32} {A : Nat → Prop} {H : Heap} {locs : List Loc} {ls : Array Slot} {kc ks : Nat} (hx : p.tables.exec = Jvm.exec) (hb : c.code = code) (hr : meth.sig.returnType = ret) (hlocks : meth.locks = false) (hAd : A = fun q : Nat => s.heap.size ≤ q) (hX : va_X b 3 xs s s.heap) (hbl : b < s.heap.size) (hS : va_S A s.heap H locs) (h1 : kc ≤ 600000) (h2 : ks ≤ 7302250) (hl : lv_has ls 4 [(3, .int 0), (0, .ref b)]) : W p l e room_1 s m #[Value.ref b] below meth c H locs kc ks (lw_Z below #[Value.ref b] s) (F0 m 18 ls []) := by
  have hbA : ¬ A b := by rw [hAd]; exact Nat.not_le.mpr hbl
  refine lv_iload_n hx hb dL_law_18 rfl (lv_at hl 0 rfl) ?_
  refine lv_aload_n hx hb dL_law_19 rfl (lv_at hl 1 rfl) ?_
  refine va_slen hx hb hX hbl hbA hS dL_law_20 ?_
  refine x_lit 3 rfl ?_
  refine lv_bipush (v := 6) hx hb dL_law_21 (by decide) ?_
  refine lv_isub hx hb dL_law_23 ?_
  refine x_lit (-3) (by decide) ?_
  refine lv_icmp_gt (tgt := 1153) hx hb dL_law_24 (by decide) (fun _ => ?_) (fun h => (h (by decide)).elim)
  exact law_fin hx hb hr hlocks hAd hS h1 h2
set_option maxHeartbeats 4000000 in
set_option maxRecDepth 100000 in
theorem law_s4 {p : Program} {l : Launch} {e : Env} {s : State} {m : MethodId} {below : List Frame} {meth : Method} {c : Code} {b : Nat} {xs : Nat → Int32} {A : Nat → Prop} {H : Heap} {locs : List Loc} {ls : Array Slot} {kc ks : Nat} (hx : p.tables.exec = Jvm.exec) (hb : c.code = code) (hr : meth.sig.returnType = ret) (hlocks : meth.locks = false) (hAd : A = fun q : Nat => s.heap.size ≤ q) (hX : va_X b 4 xs s s.heap) (hbl : b < s.heap.size) (hS : va_S A s.heap H locs) (h1 : kc ≤ 600000) (h2 : ks ≤ 7302250) (hl : lv_has ls 4 [(3, .int 0), (0, .ref b)]) : W p l e room_1 s m #[Value.ref b] below meth c H locs kc ks (lw_Z below #[Value.ref b] s) (F0 m 18 ls []) := by
  have hbA : ¬ A b := by rw [hAd]; exact Nat.not_le.mpr hbl
  refine lv_iload_n hx hb dL_law_18 rfl (lv_at hl 0 rfl) ?_
  refine lv_aload_n hx hb dL_law_19 rfl (lv_at hl 1 rfl) ?_
  refine va_slen hx hb hX hbl hbA hS dL_law_20 ?_
  refine x_lit 4 rfl ?_
  refine lv_bipush (v := 6) hx hb dL_law_21 (by decide) ?_
  refine lv_isub hx hb dL_law_23 ?_
  refine x_lit (-2) (by decide) ?_
  refine lv_icmp_gt (tgt := 1153) hx hb dL_law_24 (by decide) (fun _ => ?_) (fun h => (h (by decide)).elim)
  exact law_fin hx hb hr hlocks hAd hS h1 h2
set_option maxHeartbeats 4000000 in
set_option maxRecDepth 100000 in
theorem law_s5 {p : Program} {l : Launch} {e : Env} {s : State} {m : MethodId} {below : List Frame} {meth : Method} {c : Code} {b : Nat} {xs : Nat → Int32} {A : Nat → Prop} {H : Heap} {locs : List Loc} {ls : Array Slot} {kc ks : Nat} (hx : p.tables.exec = Jvm.exec) (hb : c.code = code) (hr : meth.sig.returnType = ret) (hlocks : meth.locks = false) (hAd : A = fun q : Nat => s.heap.size ≤ q) (hX : va_X b 5 xs s s.heap) (hbl : b < s.heap.size) (hS : va_S A s.heap H locs) (h1 : kc ≤ 600000) (h2 : ks ≤ 7302250) (hl : lv_has ls 4 [(3, .int 0), (0, .ref b)]) : W p l e room_1 s m #[Value.ref b] below meth c H locs kc ks (lw_Z below #[Value.ref b] s) (F0 m 18 ls []) := by
  have hbA : ¬ A b := by rw [hAd]; exact Nat.not_le.mpr hbl
  refine lv_iload_n hx hb dL_law_18 rfl (lv_at hl 0 rfl) ?_
  refine lv_aload_n hx hb dL_law_19 rfl (lv_at hl 1 rfl) ?_
  refine va_slen hx hb hX hbl hbA hS dL_law_20 ?_
  refine x_lit 5 rfl ?_
  refine lv_bipush (v := 6) hx hb dL_law_21 (by decide) ?_
  refine lv_isub hx hb dL_law_23 ?_
  refine x_lit (-1) (by decide) ?_
  refine lv_icmp_gt (tgt := 1153) hx hb dL_law_24 (by decide) (fun _ => ?_) (fun h => (h (by decide)).elim)
  exact law_fin hx hb hr hlocks hAd hS h1 h2
set_option maxHeartbeats 4000000 in
set_option maxRecDepth 100000 in
theorem law_s {p : Program} {l : Launch} {e : Env} {s : State} {m : MethodId} {below : List Frame} {meth : Method} {c : Code} {b L : Nat} {xs : Nat → Int32} {A : Nat → Prop} {H : Heap} {locs : List Loc} {ls : Array Slot} {kc ks : Nat} (hL : L < 6) (hx : p.tables.exec = Jvm.exec) (hb : c.code = code) (hr : meth.sig.returnType = ret) (hlocks : meth.locks = false) (hAd : A = fun q : Nat => s.heap.size ≤ q) (hX : va_X b L xs s s.heap) (hbl : b < s.heap.size) (hS : va_S A s.heap H locs) (h1 : kc ≤ 600000) (h2 : ks ≤ 7302250) (hl : lv_has ls 4 [(3, .int 0), (0, .ref b)]) : W p l e room_1 s m #[Value.ref b] below meth c H locs kc ks (lw_Z below #[Value.ref b] s) (F0 m 18 ls []) := by
  match L, hL, hX with
  | 0, _, hX => exact law_s0 hx hb hr hlocks hAd hX hbl hS h1 h2 hl
  | 1, _, hX => exact law_s1 hx hb hr hlocks hAd hX hbl hS h1 h2 hl
  | 2, _, hX => exact law_s2 hx hb hr hlocks hAd hX hbl hS h1 h2 hl
  | 3, _, hX => exact law_s3 hx hb hr hlocks hAd hX hbl hS h1 h2 hl
  | 4, _, hX => exact law_s4 hx hb hr hlocks hAd hX hbl hS h1 h2 hl
  | 5, _, hX => exact law_s5 hx hb hr hlocks hAd hX hbl hS h1 h2 hl
  | n + 6, h, _ => exact absurd h (by omega)
theorem law_KC {args : Array Value} {s : State} (hts : ∀ w ∈ TB, w.before args s = true) : ∃ (dC : Nat → ClassId) (dI : Nat → Nat → Nat), va_K (dC, dI) CL [] s := by
  obtain ⟨u0, j0, hKn0⟩ := u_known (C := RX0) (T := TX0) (N := 14) (n := 14) hts iwX0 (hts _ mw_128)
  obtain ⟨u1, j1, hKn1⟩ := u_known (C := RX1) (T := TX1) (N := 5) (n := 5) hts iwX1 (hts _ mw_310)
  obtain ⟨u2, j2, hKn2⟩ := u_known (C := RX2) (T := TX2) (N := 14) (n := 14) hts iwX2 (hts _ mw_431)
  obtain ⟨u3, j3, hKn3⟩ := u_known (C := RX3) (T := TX3) (N := 4) (n := 4) hts iwX3 (hts _ mw_160)
  obtain ⟨u4, j4, hKn4⟩ := u_known (C := RX4) (T := TX4) (N := 6) (n := 6) hts iwX4 (hts _ mw_181)
  obtain ⟨u5, j5, hKn5⟩ := u_known (C := RX5) (T := TX5) (N := 2) (n := 2) hts iwX5 (hts _ mw_134)
  obtain ⟨u6, j6, hKn6⟩ := u_known (C := RX6) (T := TX6) (N := 5) (n := 5) hts iwX6 (hts _ mw_492)
  obtain ⟨u7, j7, hKn7⟩ := u_known (C := RX7) (T := TX7) (N := 9) (n := 9) hts iwX7 (hts _ mw_514)
  obtain ⟨u8, j8, hKn8⟩ := u_known (C := RX8) (T := TX8) (N := 9) (n := 9) hts iwX8 (hts _ mw_316)
  obtain ⟨u9, j9, hKn9⟩ := u_known (C := RX9) (T := TX9) (N := 9) (n := 9) hts iwX9 (hts _ mw_120)
  obtain ⟨u10, j10, hKn10⟩ := u_known (C := RX10) (T := TX10) (N := 67) (n := 67) hts iwX10 (hts _ mw_1102)
  refine ⟨fun k => match k with | 0 => u0 | 1 => u1 | 2 => u2 | 3 => u3 | 4 => u4 | 5 => u5 | 6 => u6 | 7 => u7 | 8 => u8 | 9 => u9 | _ => u10, fun k => match k with | 0 => j0 | 1 => j1 | 2 => j2 | 3 => j3 | 4 => j4 | 5 => j5 | 6 => j6 | 7 => j7 | 8 => j8 | 9 => j9 | _ => j10, ?_, fun k q h => by simp at h⟩
  intro k q hq
  match k, hq with
  | 0, hq => cases hq; exact hKn0
  | 1, hq => cases hq; exact hKn1
  | 2, hq => cases hq; exact hKn2
  | 3, hq => cases hq; exact hKn3
  | 4, hq => cases hq; exact hKn4
  | 5, hq => cases hq; exact hKn5
  | 6, hq => cases hq; exact hKn6
  | 7, hq => cases hq; exact hKn7
  | 8, hq => cases hq; exact hKn8
  | 9, hq => cases hq; exact hKn9
  | 10, hq => cases hq; exact hKn10
  | k + 11, hq => simp [CL] at hq
