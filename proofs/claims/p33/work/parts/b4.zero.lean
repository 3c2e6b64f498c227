section MGM
variable {s : State} {H : Heap} {locs : List Loc} {D : va_G} {K : Nat → ClassId} {A : Nat → Prop}
theorem mG_map {M : List Nat} {a : Nat → Nat} {c c' : Nat → va_E} (G : mG D A s H locs (M.map fun j => (a j, c j))) (h : ∀ j H, va_at D classes (a j, c j) H → va_at D classes (a j, c' j) H) : mG D A s H locs (M.map fun j => (a j, c' j)) := by
  have key : ∀ (k : Nat) (q : Nat × va_E), (M.map fun j => (a j, c' j))[k]? = some q → ∃ j, q = (a j, c' j) ∧ (M.map fun j => (a j, c j))[k]? = some (a j, c j) := by
    intro k q hk
    rw [List.getElem?_map] at hk ⊢
    cases hj : M[k]? with
    | none => rw [hj] at hk; cases hk
    | some j => rw [hj] at hk; exact ⟨j, (Option.some.inj hk).symm, rfl⟩
  refine ⟨fun k q hk => ?_, ⟨fun i j p q hi hj e => ?_, fun k q hk => ?_⟩, G.2.2⟩
  · obtain ⟨j, rfl, e⟩ := key k q hk
    exact h j H (G.1 k _ e)
  · obtain ⟨x, rfl, e1⟩ := key i p hi
    obtain ⟨y, rfl, e2⟩ := key j q hj
    exact G.2.1.1 i j _ _ e1 e2 e
  · obtain ⟨j, rfl, e⟩ := key k q hk
    exact G.2.1.2 k (a j, c j) e
theorem fvl_Z {ad : Nat → Nat} {ci j k : Nat} (h : ro j = ci) : fvl ad Z0 ci j k = fz ad ci j k := by
  unfold fvl fz
  split <;> rename_i e
  · rw [e]; show Value.int (i0 (ro j) k) = Value.int (i0 ci k); rw [h]
  · rw [e]; rfl
  · rw [e]; rfl
  · rw [e]
theorem arr_eq {cA : ClassId} {n : Nat} {f g : Nat → Option Nat} (h : ∀ i, i < n → f i = g i) : vp_cell cA (n, .inr (.inr (.inr (.inr f)))) = vp_cell cA (n, .inr (.inr (.inr (.inr g)))) := by
  show arrV cA n (fun j => va_rf (f j)) = arrV cA n (fun j => va_rf (g j))
  unfold arrV
  have : (fun j : Fin n => va_rf (f j.val)) = (fun j : Fin n => va_rf (g j.val)) := by
    funext i; rw [h i.val i.isLt]
  rw [this]
theorem ce_cf {ad : Nat → Nat} {j a : Nat} (h : va_at D classes (a, cellF K ad j) H) : va_at D classes (a, cellE K ad Z0 j) H := by
  by_cases hc : ro j < 12
  · have e : cellE K ad Z0 j = cellF K ad j := by
      rw [cell_obj rfl hc, cf_o rfl hc]
      unfold flds
      rw [List.map_congr_left (fun k _ => fvl_Z rfl)]
    rw [e]; exact h
  · by_cases h2 : akK (ro j) = 2
    · have e : cellE K ad Z0 j = cellF K ad j := by
        unfold cellE cellF rowE rowF
        rw [if_neg hc, if_neg hc, if_pos h2, if_pos h2]; rfl
      rw [e]; exact h
    · by_cases h4 : 4 ≤ akK (ro j)
      · unfold cellF rowF at h
        unfold cellE rowE
        rw [if_neg hc, if_neg h2, if_pos h4] at h
        rw [if_neg hc, if_neg h2, if_pos h4]
        have h' : H[a]? = some (vp_cell (K (akK (ro j))) (akN (ro j), .inr (.inr (.inr (.inr (fun i => if i < akN (ro j) then some (ad (j + 1 + qst (ro j) * i)) else none)))))) := h
        show H[a]? = some (vp_cell (K (akK (ro j))) (akN (ro j), .inr (.inr (.inr (.inr (fun i => some (ad (j + 1 + qst (ro j) * i))))))))
        rw [h', arr_eq (fun i hi => by rw [if_pos hi])]
      · have e : cellE K ad Z0 j = cellF K ad j := by
          unfold cellE cellF rowE rowF
          rw [if_neg hc, if_neg hc, if_neg h2, if_neg h2, if_neg h4, if_neg h4]; rfl
        rw [e]; exact h
theorem mG_wd {ad : Nat → Nat} (G : mG D A s H locs (Bk K 0 409 ad)) : mG D A s H locs (wd K ad Z0) := by
  have e : Bk K 0 409 ad = (List.range 409).map fun j => (ad j, cellF K ad j) := by
    unfold Bk
    exact List.map_congr_left (fun i _ => by rw [Nat.zero_add])
  rw [e] at G
  exact mG_map G (fun j H h => ce_cf h)
end MGM
theorem gd_le {l : List Int} {d : Int} (h : ∀ x ∈ l, x ≤ 0) (hd : d ≤ 0) (i : Nat) : l.getD i d ≤ 0 := by
  rw [List.getD_eq_getElem?_getD]
  cases hx : l[i]? with
  | none => exact hd
  | some x => exact h x (List.mem_of_getElem? hx)
theorem gd_ge {l : List Int} {d : Int} (h : ∀ x ∈ l, 0 ≤ x) (hd : 0 ≤ d) (i : Nat) : 0 ≤ l.getD i d := by
  rw [List.getD_eq_getElem?_getD]
  cases hx : l[i]? with
  | none => exact hd
  | some x => exact h x (List.mem_of_getElem? hx)
theorem sll_0 (i : Nat) : sll i ≤ 0 := gd_le (by decide +kernel) (by decide) i
theorem shh_0 (i : Nat) : 0 ≤ shh i := gd_ge (by decide +kernel) (by decide) i
theorem alo_0 (r i : Nat) : alo r i ≤ 0 := by
  unfold alo
  repeat (first | (split; exact sll_0 _) | split)
  all_goals first
    | exact sll_0 _
    | decide
    | (unfold alo0; split
       · decide
       · exact gd_le (by decide +kernel) (by decide) _)
theorem ahi_0 (r i : Nat) : 0 ≤ ahi r i := by
  unfold ahi
  repeat (first | (split; exact shh_0 _) | split)
  all_goals first
    | exact shh_0 _
    | decide
    | (unfold ahi0; split
       · decide
       · exact gd_ge (by decide +kernel) (by decide) _)
theorem iz_d : ∀ r, r < 12 → ∀ k, k < 40 → ilo r k ≤ (i0 r k).toInt ∧ (i0 r k).toInt ≤ ihi r k := by decide +kernel
theorem ln_d : ∀ r, r < 12 → (iloL.getD r []).length ≤ 40 ∧ (ihiL.getD r []).length ≤ 40 := by decide +kernel
theorem iz (r k : Nat) : iv (ilo r k) (ihi r k) (i0 r k) := by
  by_cases hr : r < 12
  · by_cases hk : k < 40
    · exact iz_d r hr k hk
    · have h1 := ln_d r hr
      have e1 : ilo r k = -2147483648 := by
        unfold ilo; rw [List.getD_eq_getElem?_getD (l := iloL.getD r []), List.getElem?_eq_none_iff.mpr (by omega)]; rfl
      have e2 : ihi r k = 2147483647 := by
        unfold ihi; rw [List.getD_eq_getElem?_getD (l := ihiL.getD r []), List.getElem?_eq_none_iff.mpr (by omega)]; rfl
      rw [e1, e2]; exact iv_full _
  · have n1 : iloL.length = 12 := by decide +kernel
    have n2 : ihiL.length = 12 := by decide +kernel
    have e1 : ilo r k = -2147483648 := by
      unfold ilo; rw [List.getD_eq_getElem?_getD (l := iloL), List.getElem?_eq_none_iff.mpr (by omega)]; rfl
    have e2 : ihi r k = 2147483647 := by
      unfold ihi; rw [List.getD_eq_getElem?_getD (l := ihiL), List.getElem?_eq_none_iff.mpr (by omega)]; rfl
    rw [e1, e2]; exact iv_full _
theorem dy_d : ∀ j, j < 409 → ∀ k, k < 10 → dyr (ro j) k < 97 → at_ (dyr (ro j) k) (p0 j k) = true := by decide +kernel
theorem dy_k {r k : Nat} (h : dyr r k < 97) : k < 10 := by
  unfold dyr at h
  split at h <;> omega
theorem dy_j {j k : Nat} (h : dyr (ro j) k < 97) : j < 409 := by
  rcases Nat.lt_or_ge j 409 with q | q
  · exact q
  · exfalso
    have e : ro j = 99 := by
      unfold ro
      rw [List.getD_eq_getElem?_getD, List.getElem?_eq_none_iff.mpr (by have : roL.length = 409 := by decide +kernel
                                                                        omega)]
      rfl
    rw [e] at h
    unfold dyr at h
    split at h <;> first | omega | (rename_i q1; cases q1) | contradiction
theorem ok_Z0 : Ok Z0 := by
  refine ⟨⟨fun j k => iz _ _, fun j i => ⟨?_, ?_⟩, fun j k h => dy_d j (dy_j h) k (dy_k h) h⟩, fun j hj i hi => ?_⟩
  · show alo (ro j) i ≤ (0 : Int32).toInt; exact alo_0 _ _
  · show (0 : Int32).toInt ≤ ahi (ro j) i; exact ahi_0 _ _
  · have e : (tI Z0 j 0).toInt = 0 := by
      show (i0 (ro j) 0).toInt = 0
      rw [hj]; decide
    rw [e] at hi
    omega
theorem jj_Z0 : JJ Z0 := by
  refine ⟨ok_Z0, fun t _ c hc => ?_, rfl, fun k hk => ⟨⟨fun _ => rfl, fun _ => ?_⟩, fun h => absurd rfl h⟩⟩
  · have e : (tA Z0 391 t).toInt = 0 := rfl
    rw [e] at hc
    omega
  · show ((0 : Int32) >>> (k &&& 31)) &&& 1 = 0
    rw [Int32.zero_shiftRight]; decide
