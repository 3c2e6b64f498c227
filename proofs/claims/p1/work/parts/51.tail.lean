theorem dL_law_18 : decode code 18 = .ok (.iload_n 3, 1) := by decide +kernel
theorem dL_law_19 : decode code 19 = .ok (.aload_n 0, 1) := by decide +kernel
theorem dL_law_20 : decode code 20 = .ok (.arraylength, 1) := by decide +kernel
theorem dL_law_21 : decode code 21 = .ok (.bipush 6, 2) := by decide +kernel
theorem dL_law_23 : decode code 23 = .ok (.isub, 1) := by decide +kernel
theorem dL_law_24 : decode code 24 = .ok (.if_icmp .gt 1232, 3) := by decide +kernel
theorem dL_law_1250 : decode code 1250 = .ok (.iinc 3 6, 3) := by decide +kernel
theorem dL_law_1253 : decode code 1253 = .ok (.goto (-1235), 3) := by decide +kernel
theorem dL_law_1256 : decode code 1256 = .ok (.iconst 1, 1) := by decide +kernel
theorem dL_law_1257 : decode code 1257 = .ok (.ireturn, 1) := by decide +kernel
theorem law_exit {p : Program} {e : Env} {s : State} {m : MethodId} {below : List Frame} {meth : Method} {c : Code} (l : Launch) {b : Nat} {xs : Nat → Int32} {D : va_G} {K : Nat → ClassId} {A : Nat → Prop} (E : mE p s m meth c code #[Value.ref b] 4 RL D K A) (hr : meth.sig.returnType = ret) (hge : ∀ q : Nat, A q → s.heap.size ≤ q) {H : Heap} {locs : List Loc} {ls : Array Slot} (hS : va_S A s.heap H locs) : W p l e room_1 s m #[Value.ref b] below meth c H locs 600000 7302250 (lw_Z below #[Value.ref b] s) (F0 m 1256 ls []) := by
  refine lv_iconst (v := 1) E.1 E.2.1 dL_law_1256 (by decide) ?_
  refine va_forget (fun q hq => hge _ (hS.2.2 q hq)) ?_
  exact lw_ret E.1 E.2.1 hr E.2.2.2.2.2.2.2 dL_law_1257
theorem law_head {p : Program} {e : Env} {s : State} {m : MethodId} {below : List Frame} {meth : Method} {c : Code} (l : Launch) {b : Nat} {xs : Nat → Int32} {D : va_G} {K : Nat → ClassId} {A : Nat → Prop} {v : Int32} {L : Nat} (E : mE p s m meth c code #[Value.ref b] 4 RL D K A) (hr : meth.sig.returnType = ret) (hX : va_X b L xs s s.heap) (hbl : b < s.heap.size) (hbA : ¬ A b) (hge : ∀ q : Nat, A q → s.heap.size ≤ q) (hlt : (Int32.ofNat L - 6) < v) {H : Heap} {locs : List Loc} {ls : Array Slot} (hS : va_S A s.heap H locs) (hl : lv_has ls 4 [(3, .int v), (0, .ref b)]) : W p l e room_1 s m #[Value.ref b] below meth c H locs 600000 7302250 (lw_Z below #[Value.ref b] s) (F0 m 18 ls []) := by
  refine lv_iload_n E.1 E.2.1 dL_law_18 rfl (lv_at hl 0 rfl) ?_
  refine lv_aload_n E.1 E.2.1 dL_law_19 rfl (lv_at hl 1 rfl) ?_
  refine va_slen E.1 E.2.1 hX hbl hbA hS dL_law_20 ?_
  refine lv_bipush (v := 6) E.1 E.2.1 dL_law_21 (by decide) ?_
  refine lv_isub E.1 E.2.1 dL_law_23 ?_
  refine lv_icmp_gt (tgt := 1256) E.1 E.2.1 dL_law_24 (by decide) (fun _ => ?_) (fun h => absurd hlt h)
  exact law_exit (xs := xs) l E hr hge hS
theorem law_tail {p : Program} {e : Env} {s : State} {m : MethodId} {below : List Frame} {meth : Method} {c : Code} (l : Launch) {b : Nat} {xs : Nat → Int32} {D : va_G} {K : Nat → ClassId} {A : Nat → Prop} (E : mE p s m meth c code #[Value.ref b] 4 RL D K A) (hr : meth.sig.returnType = ret) (hX : va_X b 6 xs s s.heap) (hbl : b < s.heap.size) (hbA : ¬ A b) (hge : ∀ q : Nat, A q → s.heap.size ≤ q) {H : Heap} {locs : List Loc} {ls : Array Slot} (hS : va_S A s.heap H locs) (hl : lv_has ls 4 [(0, .ref b), (3, .int 0)]) : W p l e room_1 s m #[Value.ref b] below meth c H locs 600000 7302250 (lw_Z below #[Value.ref b] s) (F0 m 1250 ls []) := by
  refine lv_iinc (v := 6) (lv' := [(3, .int 6), (0, .ref b)]) E.1 E.2.1 dL_law_1250 hl (k := 1) rfl (by decide) (by decide) rfl (fun ls hl => ?_)
  refine lv_goto (tgt := 18) E.1 E.2.1 dL_law_1253 (by decide) ?_
  exact law_head l E hr hX hbl hbA hge (by decide) hS hl
