/-! a fragment goes in: both sides alike -/
section SIM3
variable {se id pr en be th bs : F1} {ds : Nat → Dg} {nw : Int32} {i k a b : Nat} {l : Int32} {f x T U : Nat → Int32}
theorem cnt_n {n : Nat} : ∀ m, n ≤ m → (∀ j, n ≤ j → j < m → x j = -1) → cntP x m = cntP x n
  | 0, h, _ => by
    rw [show n = 0 by omega]
  | m + 1, h, hx => by
    by_cases hm : n = m + 1
    · rw [hm]
    · show cntP x m + _ = _
      rw [if_pos (hx m (by omega) (by omega)), Nat.add_zero]
      exact cnt_n m (by omega) (fun j h1 h2 => hx j h1 (by omega))
theorem cnt_le : ∀ n, cntP x n ≤ n
  | 0 => Nat.le_refl _
  | n + 1 => by
    have := cnt_le n
    show cntP x n + _ ≤ _
    split <;> omega
theorem cnt_all : ∀ n, cntP x n = n ↔ ∀ j, j < n → x j ≠ -1
  | 0 => ⟨fun _ j h => absurd h (Nat.not_lt_zero _), fun _ => rfl⟩
  | n + 1 => by
    have h1 := cnt_all n
    have h2 := cnt_le (x := x) n
    have h3 : cntP x (n + 1) = cntP x n + (if x n = -1 then 0 else 1) := rfl
    by_cases hx : x n = -1
    · rw [h3, if_pos hx]
      constructor
      · intro q
        omega
      · intro q
        exact absurd hx (q n (by omega))
    · rw [h3, if_neg hx]
      constructor
      · intro q j hj
        by_cases hjn : j = n
        · rw [hjn]
          exact hx
        · exact h1.mp (by omega) j (by omega)
      · intro q
        have := h1.mpr (fun j hj => q j (by omega))
        omega
theorem cnt_eq {y : Nat → Int32} : ∀ n, (∀ j, j < n → x j = y j) → cntP x n = cntP y n
  | 0, _ => rfl
  | n + 1, h => by
    show cntP x n + _ = cntP y n + _
    rw [h n (by omega), cnt_eq n (fun j hj => h j (by omega))]
theorem cnt_upd {p : Nat} {v : Int32} (hx : x p = -1) (hv : v ≠ -1) : ∀ n, p < n → cntP (upd x p v) n = cntP x n + 1
  | 0, h => absurd h (Nat.not_lt_zero _)
  | n + 1, h => by
    show cntP (upd x p v) n + _ = cntP x n + _ + 1
    by_cases hp : p = n
    · subst hp
      rw [pk_us, if_neg hv, if_pos hx, cnt_eq p (fun j hj => pk_un (Nat.ne_of_lt hj))]
    · rw [pk_un (fun z => hp z.symm), cnt_upd hx hv n (by omega)]
      omega
theorem cnt_pt (hT : ∀ j, T j ≠ -1) : ∀ b, a + b ≤ 4096 → cntP (pt x a b T) 4096 = cntP x 4096 + cn x a b
  | 0, _ => by
    rw [pt_0, show cn x a 0 = 0 from rfl, Nat.add_zero]
  | b + 1, h => by
    by_cases hc : pt x a b T (a + b) = -1
    · rw [← pt_s1 hc, cn_s1 hc, cnt_upd hc (hT b) 4096 (by omega), cnt_pt hT b (by omega)]
      omega
    · rw [← pt_s2 hc, cn_s2 hc, cnt_pt hT b (by omega)]
theorem T_b (hT : ∀ j, T j = U j &&& 255) (j : Nat) : ∃ n, n < 256 ∧ T j = nI n := by
  obtain ⟨n, h1, h2⟩ := and_255 (U j)
  exact ⟨n, h1, (hT j).trans h2⟩
theorem T_m1 (hT : ∀ j, T j = U j &&& 255) (j : Nat) : T j ≠ -1 := by
  obtain ⟨n, h1, h2⟩ := T_b hT j
  rw [h2]
  exact nI_nm1 (by omega)
/-- a byte that is there is above 0 in the reference's row -/
theorem pos_iff {v : Int32} (h : v = -1 ∨ ∃ b, b < 256 ∧ v = nI b) : 0 < v + 1 ↔ v ≠ -1 := by
  rcases h with h | ⟨b, hb, h⟩
  · subst h
    exact ⟨fun q => absurd q (by decide), fun q => absurd rfl q⟩
  · subst h
    refine ⟨fun _ => nI_nm1 (by omega), fun _ => ?_⟩
    rw [nI_1, ← nI_0]
    exact nI_lt (by omega) (by omega)
theorem ctr_iff {d : Dg} (hI : IV d.1 d.2 nw) (h1 : d.1 1 ≠ 0) (he : oC d = oM se id pr en be th bs k) {t : Nat} (ht : t ≤ 4096) : Ctr d.1 (nI t) l ↔ (C1m en k t l ∨ C2m bs k t l 4096) := by
  obtain ⟨-, -, -, -, -, e6, e7⟩ := oCM h1 he
  obtain ⟨-, -, hx, hd⟩ := hI
  have c2 : C2m bs k t l 4096 ↔ l ≠ 0 ∧ ∃ j, t ≤ j ∧ j < 4096 ∧ d.2 j ≠ -1 := by
    constructor
    · intro h
      obtain ⟨h0, j, q1, q2, q3⟩ := h
      rw [e7 j q2, pos_iff (hx j q2)] at q3
      exact ⟨h0, j, q1, q2, q3⟩
    · intro h
      obtain ⟨h0, j, q1, q2, q3⟩ := h
      refine ⟨h0, j, q1, q2, ?_⟩
      rw [e7 j q2, pos_iff (hx j q2)]
      exact q3
  rw [c2]
  unfold Ctr C1m
  rw [e6]
  rcases hd with ⟨h6, r, hr, h7, hr1, hr2⟩ | ⟨e, he9, h6, ⟨r, hre, h7⟩, hr2⟩
  · rw [h6, h7]
    constructor
    · intro h
      rcases h with h | h
      · exact absurd rfl h.1
      · have hlt : t < r := (nI_ltI (by omega) (by omega)).mp h.2
        refine Or.inr ⟨h.1, r - 1, by omega, by omega, ?_⟩
        rcases hr1 with z | z
        · omega
        · exact z
    · intro h
      rcases h with h | h
      · exact absurd h.1 (by decide)
      · obtain ⟨h0, j, q1, q2, q3⟩ := h
        refine Or.inr ⟨h0, (nI_ltI (by omega) (by omega)).mpr ?_⟩
        rcases Nat.lt_or_ge j r with z | z
        · omega
        · exact absurd (hr2 j z q2) q3
  · rw [h6, h7]
    have n1 : nI e ≠ -1 := nI_nm1 (by omega)
    have n2 : (0 : Int32) ≤ nI e := nI_pos' (by omega)
    constructor
    · intro h
      rcases h with h | h
      · exact Or.inl ⟨n2, h.2⟩
      · have hlt : t < r := (nI_ltI (by omega) (by omega)).mp h.2
        exact Or.inl ⟨n2, Or.inr ⟨h.1, fun z => by have := (nI_eq (by omega) (by omega)).mp z; omega⟩⟩
    · intro h
      rcases h with h | h
      · exact Or.inl ⟨n1, h.2⟩
      · obtain ⟨h0, j, q1, q2, q3⟩ := h
        refine Or.inl ⟨n1, Or.inr ⟨h0, fun z => ?_⟩⟩
        have := (nI_eq (by omega) (by omega)).mp z
        exact q3 (hr2 j (by omega) q2)
theorem nR_7 {t r : Nat} (ht : t ≤ 4096) (hr : r ≤ 4096) (h7 : f 7 = nI r) : nR f (nI t) l 7 = nI (if r < t then t else r) := by
  have h : (if f 7 < nI t then nI t else f 7) = nI (if r < t then t else r) := by
    rw [h7]
    by_cases hc : r < t
    · rw [if_pos hc, if_pos ((nI_ltI (by omega) (by omega)).mpr hc)]
    · rw [if_neg hc, if_neg (fun z => hc ((nI_ltI (by omega) (by omega)).mp z))]
  unfold nR
  by_cases hl : l = 0
  · rw [if_pos hl]
    exact h
  · rw [if_neg hl]
    exact h
theorem nR_6 {t : Nat} : nR f (nI t) l 6 = (if l = 0 then f 6 else nI t) := by
  unfold nR
  by_cases hl : l = 0
  · rw [if_pos hl, if_pos hl]
    rfl
  · rw [if_neg hl, if_neg hl]
    rfl
theorem nR_n {r : Int32} {j : Nat} (h6 : j ≠ 6) (h7 : j ≠ 7) : nR f r l j = f j := by
  unfold nR
  by_cases hl : l = 0
  · rw [if_pos hl, pk_un h7]
  · rw [if_neg hl, pk_un h6, pk_un h7]
theorem pt_v (hT : ∀ j, T j = U j &&& 255) (hx : ∀ j, j < 4096 → x j = -1 ∨ ∃ b, b < 256 ∧ x j = nI b) : ∀ j, j < 4096 → pt x a b T j = -1 ∨ ∃ n, n < 256 ∧ pt x a b T j = nI n := by
  intro j hj
  unfold pt
  split
  · exact Or.inr (T_b hT _)
  · exact hx j hj
theorem pt_out {j : Nat} (h : a + b ≤ j) : pt x a b T j = x j := if_neg (by omega)
theorem pt_keep {j : Nat} (h : x j ≠ -1) : pt x a b T j ≠ -1 := by
  unfold pt
  rw [if_neg (fun q => h q.2.2)]
  exact h
theorem pt_inn (hT : ∀ j, T j ≠ -1) {j : Nat} (h1 : a ≤ j) (h2 : j < a + b) : pt x a b T j ≠ -1 := by
  unfold pt
  by_cases hx : x j = -1
  · rw [if_pos ⟨h1, h2, hx⟩]
    exact hT _
  · rw [if_neg (fun q => hx q.2.2)]
    exact hx
theorem IV_jD (hI : IV f x nw) (hT : ∀ j, T j = U j &&& 255) (hs : Snd a b l) (hc : ¬ Ctr f (nI (a + b)) l) : IV (jD f x a b T l).1 (jD f x a b T l).2 nw := by
  obtain ⟨h5, h8, hx, hd⟩ := hI
  obtain ⟨hab, hlb⟩ := hs
  have hTm := T_m1 hT
  have e5 : (jD f x a b T l).1 5 = f 5 := nR_n (by decide) (by decide)
  have e8 : (jD f x a b T l).1 8 = f 8 + nI (cn x a b) := by
    show nR f (nI (a + b)) l 8 + nI (cn x a b) = _
    rw [nR_n (by decide) (by decide)]
  have e6 : (jD f x a b T l).1 6 = (if l = 0 then f 6 else nI (a + b)) := nR_6
  have e7 : ∀ r, r ≤ 4096 → f 7 = nI r → (jD f x a b T l).1 7 = nI (if r < a + b then a + b else r) := fun r hr h7 => nR_7 hab hr h7
  refine ⟨by rw [e5]; exact h5, ?_, pt_v hT hx, ?_⟩
  · rw [e8, h8, nI_add]
    show _ = nI (cntP (pt x a b T) 4096)
    rw [cnt_pt hTm b hab]
  · rw [e6]
    show (_ ∧ ∃ r, r ≤ 4096 ∧ _ = nI r ∧ (r = 0 ∨ pt x a b T (r - 1) ≠ -1) ∧ ∀ j, r ≤ j → j < 4096 → pt x a b T j = -1) ∨ ∃ e, e ≤ 4096 ∧ _ = nI e ∧ (∃ r, r ≤ e ∧ _ = nI r) ∧ ∀ j, e ≤ j → j < 4096 → pt x a b T j = -1
    rcases hd with ⟨h6, r, hr, h7, hr1, hr2⟩ | ⟨e, he9, h6, ⟨r, hre, h7⟩, hr2⟩
    · by_cases hl : l = 0
      · have hb0 : 0 < b := (hlb.resolve_left (fun z => z hl)).1
        rw [if_pos hl]
        refine Or.inl ⟨h6, (if r < a + b then a + b else r), by split <;> omega, e7 r hr h7, ?_, ?_⟩
        · split
          · exact Or.inr (pt_inn hTm (by omega) (by omega))
          · rcases hr1 with z | z
            · omega
            · exact Or.inr (pt_keep z)
        · intro j hj hj2
          split at hj
          · rw [pt_out (by omega)]
            exact hr2 j (by omega) hj2
          · rw [pt_out (by omega)]
            exact hr2 j (by omega) hj2
      · rw [if_neg hl]
        have hrt : r ≤ a + b := by
          rcases Nat.lt_or_ge (a + b) r with z | z
          · exact absurd (Or.inr ⟨hl, by rw [h7]; exact (nI_ltI (by omega) (by omega)).mpr z⟩) hc
          · exact z
        refine Or.inr ⟨a + b, hab, rfl, ⟨(if r < a + b then a + b else r), by split <;> omega, e7 r hr h7⟩, fun j hj hj2 => ?_⟩
        rw [pt_out hj]
        exact hr2 j (by omega) hj2
    · have n1 : f 6 ≠ -1 := by rw [h6]; exact nI_nm1 (by omega)
      have hte : a + b ≤ e := by
        rcases Nat.lt_or_ge e (a + b) with z | z
        · exact absurd (Or.inl ⟨n1, Or.inl (by rw [h6]; exact (nI_ltI (by omega) (by omega)).mpr z)⟩) hc
        · exact z
      by_cases hl : l = 0
      · rw [if_pos hl]
        refine Or.inr ⟨e, he9, h6, ⟨(if r < a + b then a + b else r), by split <;> omega, e7 r (by omega) h7⟩, fun j hj hj2 => ?_⟩
        rw [pt_out (by omega)]
        exact hr2 j hj hj2
      · rw [if_neg hl]
        have hee : a + b = e := by
          rcases Nat.lt_or_ge (a + b) e with z | z
          · exact absurd (Or.inl ⟨n1, Or.inr ⟨hl, by rw [h6]; exact fun q => by have := (nI_eq (by omega) (by omega)).mp q; omega⟩⟩) hc
          · omega
        refine Or.inr ⟨a + b, hab, rfl, ⟨(if r < a + b then a + b else r), by split <;> omega, e7 r (by omega) h7⟩, fun j hj hj2 => ?_⟩
        rw [pt_out hj]
        exact hr2 j (by omega) hj2
end SIM3
