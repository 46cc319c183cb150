/-! the two sides' slots, as records; a permutation ties them -/
abbrev Rc : Type := (Int32 × Int32 × Int32) × Int32 × Int32 × (Nat → Int32)
def rC (d : Dg) : Rc := ((d.1 2, d.1 3, d.1 4), d.1 5, d.1 6, fun j => if j < 4096 then d.2 j + 1 else 0)
def oC (d : Dg) : Option Rc := if d.1 1 = 0 then none else some (rC d)
def rM (se id pr en be bs : F1) (k : Nat) : Rc := ((se k, id k, pr k), be k, en k, fun j => if j < 4096 then bs (k * 4096 + j) else 0)
def oM (se id pr en be th bs : F1) (k : Nat) : Option Rc := if th k = 0 then none else some (rM se id pr en be bs k)
def l4 {α : Type} (f : Nat → α) : List α := [f 0, f 1, f 2, f 3]
theorem l4_cut {α : Type} (f : Nat → α) {i : Nat} (hi : i < 4) : ∃ R : List α, (l4 f).Perm (f i :: R) ∧ ∀ v, (l4 (va_up f i v)).Perm (v :: R) := by
  rcases lt4 hi with rfl | rfl | rfl | rfl
  · exact ⟨[f 1, f 2, f 3], List.Perm.refl _, fun v => List.Perm.refl _⟩
  · exact ⟨[f 0, f 2, f 3], List.perm_middle (l₁ := [f 0]) (l₂ := [f 2, f 3]), fun v => List.perm_middle (l₁ := [f 0]) (l₂ := [f 2, f 3])⟩
  · exact ⟨[f 0, f 1, f 3], List.perm_middle (l₁ := [f 0, f 1]) (l₂ := [f 3]), fun v => List.perm_middle (l₁ := [f 0, f 1]) (l₂ := [f 3])⟩
  · exact ⟨[f 0, f 1, f 2], List.perm_middle (l₁ := [f 0, f 1, f 2]) (l₂ := []), fun v => List.perm_middle (l₁ := [f 0, f 1, f 2]) (l₂ := [])⟩
theorem l4_set {α : Type} {f g : Nat → α} {i k : Nat} (hi : i < 4) (hk : k < 4) (h : (l4 f).Perm (l4 g)) (e : f i = g k) (v : α) : (l4 (va_up f i v)).Perm (l4 (va_up g k v)) := by
  obtain ⟨R, h1, h2⟩ := l4_cut f hi
  obtain ⟨S, h3, h4⟩ := l4_cut g hk
  have h5 : (f i :: R).Perm (g k :: S) := (h1.symm.trans h).trans h3
  rw [e] at h5
  exact ((h2 v).trans (List.Perm.cons v h5.cons_inv)).trans (h4 v).symm
theorem l4_mem {α : Type} (f : Nat → α) (x : α) : x ∈ l4 f ↔ ∃ i, i < 4 ∧ f i = x := by
  constructor
  · intro h
    simp only [l4, List.mem_cons, List.not_mem_nil, or_false] at h
    rcases h with h | h | h | h
    · exact ⟨0, by omega, h.symm⟩
    · exact ⟨1, by omega, h.symm⟩
    · exact ⟨2, by omega, h.symm⟩
    · exact ⟨3, by omega, h.symm⟩
  · intro h
    obtain ⟨i, hi, h⟩ := h
    subst h
    rcases lt4 hi with rfl | rfl | rfl | rfl <;> simp [l4]
theorem l4_find {α : Type} {f g : Nat → α} (h : (l4 f).Perm (l4 g)) {i : Nat} (hi : i < 4) : ∃ k, k < 4 ∧ g k = f i := (l4_mem g _).mp (h.mem_iff.mp ((l4_mem f _).mpr ⟨i, hi, rfl⟩))
theorem l4_count {α : Type} (f : Nat → α) (p : α → Bool) : (l4 f).countP p = (if p (f 0) = true then 1 else 0) + (if p (f 1) = true then 1 else 0) + (if p (f 2) = true then 1 else 0) + (if p (f 3) = true then 1 else 0) := by
  simp only [l4, List.countP_cons, List.countP_nil]
  omega
theorem x1_0 {x : Int32} : x + 1 = 0 ↔ x = -1 := by
  constructor
  · intro h
    have h1 := Int32.add_sub_cancel x 1
    rw [h] at h1
    rw [← h1]
    decide
  · intro h
    subst h
    decide
theorem nI_nm1 {e : Nat} (h : e < 2 ^ 31) : nI e ≠ -1 := fun q => absurd (q ▸ nI_pos' h) (by decide)
theorem oC_in {d : Dg} (h : d.1 1 ≠ 0) : oC d = some (rC d) := if_neg h
theorem oC_out {d : Dg} (h : d.1 1 = 0) : oC d = none := if_pos h
section SIM
variable {se id pr en be th bs se1 id1 pr1 en1 be1 th1 bs1 : F1} {ds : Nat → Dg} {nw : Int32} {i k : Nat} {d : Dg}
theorem oM_in (h : th k ≠ 0) : oM se id pr en be th bs k = some (rM se id pr en be bs k) := if_neg h
theorem oM_out (h : th k = 0) : oM se id pr en be th bs k = none := if_pos h
theorem oCM (h1 : d.1 1 ≠ 0) (h : oC d = oM se id pr en be th bs k) : th k ≠ 0 ∧ se k = d.1 2 ∧ id k = d.1 3 ∧ pr k = d.1 4 ∧ be k = d.1 5 ∧ en k = d.1 6 ∧ ∀ j, j < 4096 → bs (k * 4096 + j) = d.2 j + 1 := by
  rw [oC_in h1] at h
  by_cases ht : th k = 0
  · rw [oM_out ht] at h
    cases h
  · rw [oM_in ht] at h
    have h2 := Option.some.inj h
    refine ⟨ht, (congrArg (fun r : Rc => r.1.1) h2).symm, (congrArg (fun r : Rc => r.1.2.1) h2).symm, (congrArg (fun r : Rc => r.1.2.2) h2).symm, (congrArg (fun r : Rc => r.2.1) h2).symm, (congrArg (fun r : Rc => r.2.2.1) h2).symm, fun j hj => ?_⟩
    have h3 := congrArg (fun r : Rc => r.2.2.2 j) h2
    simp only [rC, rM, if_pos hj] at h3
    exact h3.symm
theorem oCM_of (h1 : d.1 1 ≠ 0) (ht : th k ≠ 0) (a1 : se k = d.1 2) (a2 : id k = d.1 3) (a3 : pr k = d.1 4) (a4 : be k = d.1 5) (a5 : en k = d.1 6) (a6 : ∀ j, j < 4096 → bs (k * 4096 + j) = d.2 j + 1) : oC d = oM se id pr en be th bs k := by
  rw [oC_in h1, oM_in ht]
  unfold rC rM
  rw [a1, a2, a3, a4, a5]
  congr 4
  funext j
  by_cases hj : j < 4096
  · rw [if_pos hj, if_pos hj, a6 j hj]
  · rw [if_neg hj, if_neg hj]
/-- what a slot's change leaves as it was -/
def Loc9 (se id pr en be th bs se1 id1 pr1 en1 be1 th1 bs1 : F1) (k : Nat) : Prop := ∀ j, j ≠ k → se1 j = se j ∧ id1 j = id j ∧ pr1 j = pr j ∧ en1 j = en j ∧ be1 j = be j ∧ th1 j = th j ∧ ∀ i, i < 4096 → bs1 (j * 4096 + i) = bs (j * 4096 + i)
theorem oM_loc (h : Loc9 se id pr en be th bs se1 id1 pr1 en1 be1 th1 bs1 k) : oM se1 id1 pr1 en1 be1 th1 bs1 = va_up (oM se id pr en be th bs) k (oM se1 id1 pr1 en1 be1 th1 bs1 k) := by
  funext j
  by_cases hj : j = k
  · subst hj
    rw [vu_s]
  · rw [vu_n _ _ hj]
    obtain ⟨a1, a2, a3, a4, a5, a6, a7⟩ := h j hj
    unfold oM rM
    rw [a1, a2, a3, a4, a5, a6]
    congr 5
    funext i
    by_cases hi : i < 4096
    · rw [if_pos hi, if_pos hi, a7 i hi]
    · rw [if_neg hi, if_neg hi]
theorem fC_up : (fun j => oC (va_up ds i d j)) = va_up (fun j => oC (ds j)) i (oC d) := by
  funext j
  by_cases hj : j = i
  · subst hj
    rw [vu_s, vu_s]
  · rw [vu_n _ _ hj, vu_n _ _ hj]
end SIM
def cntP (x : Nat → Int32) : Nat → Nat
  | 0 => 0
  | n + 1 => cntP x n + (if x n = -1 then 0 else 1)
def IV (f x : Nat → Int32) (nw : Int32) : Prop :=
  (0 ≤ f 5 ∧ f 5 ≤ nw) ∧ f 8 = nI (cntP x 4096) ∧ (∀ j, j < 4096 → x j = -1 ∨ ∃ b, b < 256 ∧ x j = nI b) ∧
  ((f 6 = -1 ∧ ∃ r, r ≤ 4096 ∧ f 7 = nI r ∧ (r = 0 ∨ x (r - 1) ≠ -1) ∧ ∀ j, r ≤ j → j < 4096 → x j = -1) ∨
   (∃ e, e ≤ 4096 ∧ f 6 = nI e ∧ (∃ r, r ≤ e ∧ f 7 = nI r) ∧ ∀ j, e ≤ j → j < 4096 → x j = -1))
def SL (ds : Nat → Dg) (se id pr en be th bs : F1) (nw : Int32) : Prop :=
  (l4 (fun i => oC (ds i))).Perm (l4 (oM se id pr en be th bs)) ∧ (∀ i, i < 4 → (ds i).1 1 ≠ 0 → IV (ds i).1 (ds i).2 nw) ∧
  (∀ i j, i < 4 → j < 4 → i ≠ j → (ds i).1 1 ≠ 0 → (ds j).1 1 ≠ 0 → ¬ Kx (ds i).1 ((ds j).1 2) ((ds j).1 3) ((ds j).1 4)) ∧
  (∀ k, k < 4 → en k ≤ nI 4096)
section SIM2
variable {se id pr en be th bs se1 id1 pr1 en1 be1 th1 bs1 : F1} {ds ds1 : Nat → Dg} {nw : Int32} {i k : Nat} {d : Dg}
theorem sl_upd (S : SL ds se id pr en be th bs nw) (hi : i < 4) (hk : k < 4) (he : oC (ds i) = oM se id pr en be th bs k) (hloc : Loc9 se id pr en be th bs se1 id1 pr1 en1 be1 th1 bs1 k) (hd : oC d = oM se1 id1 pr1 en1 be1 th1 bs1 k)
    (hIV : d.1 1 ≠ 0 → IV d.1 d.2 nw) (hun : d.1 1 ≠ 0 → ∀ j, j < 4 → j ≠ i → (ds j).1 1 ≠ 0 → ¬ Kx (ds j).1 (d.1 2) (d.1 3) (d.1 4)) (hen : en1 k ≤ nI 4096) : SL (va_up ds i d) se1 id1 pr1 en1 be1 th1 bs1 nw := by
  obtain ⟨s1, s2, s3, s4⟩ := S
  refine ⟨?_, ?_, ?_, ?_⟩
  · rw [fC_up, oM_loc hloc, ← hd]
    exact l4_set hi hk s1 he _
  · intro j hj h1
    by_cases hji : j = i
    · subst hji
      rw [vu_s] at h1 ⊢
      exact hIV h1
    · rw [vu_n _ _ hji] at h1 ⊢
      exact s2 j hj h1
  · intro a b ha hb hab h1 h2
    by_cases hai : a = i
    · subst hai
      have hba : b ≠ a := fun z => hab z.symm
      rw [vu_s] at h1
      rw [vu_n _ _ hba] at h2
      rw [vu_s, vu_n _ _ hba]
      exact fun q => hun h1 b hb hba h2 ⟨q.1.symm, q.2.1.symm, q.2.2.symm⟩
    · rw [vu_n _ _ hai] at h1
      rw [vu_n _ _ hai]
      by_cases hbi : b = i
      · subst hbi
        rw [vu_s] at h2
        rw [vu_s]
        exact hun h2 a ha hai h1
      · rw [vu_n _ _ hbi] at h2
        rw [vu_n _ _ hbi]
        exact s3 a b ha hb hab h1 h2
  · intro j hj
    by_cases hjk : j = k
    · subst hjk
      exact hen
    · rw [(hloc j hjk).2.2.2.1]
      exact s4 j hj
theorem cnt_m1 {x : Nat → Int32} : ∀ n, (∀ j, j < n → x j = -1) → cntP x n = 0
  | 0, _ => rfl
  | n + 1, h => by
    show cntP x n + _ = 0
    rw [if_pos (h n (by omega)), cnt_m1 n (fun j hj => h j (by omega))]
theorem IV_bg {f x : Nat → Int32} {a b c : Int32} (hnw : 0 ≤ nw) (hx : ∀ j, j < 4096 → x j = -1) : IV (bg f a b c nw) x nw := by
  refine ⟨⟨hnw, Int32.le_refl _⟩, ?_, fun j hj => Or.inl (hx j hj), Or.inl ⟨rfl, 0, by omega, rfl, Or.inl rfl, fun j _ hj => hx j hj⟩⟩
  rw [cnt_m1 4096 hx]
  rfl
/-- the slot that both take a fragment into -/
theorem sl_pick (S : SL ds se id pr en be th bs nw) (hnw : 0 ≤ nw) {a b c r : Int32} (hF : SF ds a b c nw r ds1) (hk : k < 4) (hM : MSl se id pr en be th bs a b c nw k (se1, id1, pr1, en1, be1, th1, bs1)) :
    ∃ i, i < 4 ∧ r = nI i ∧ SL ds1 se1 id1 pr1 en1 be1 th1 bs1 nw ∧ (ds1 i).1 1 ≠ 0 ∧ oC (ds1 i) = oM se1 id1 pr1 en1 be1 th1 bs1 k := by
  have hS := S
  obtain ⟨s1, s2, s3, s4⟩ := S
  have back : th k ≠ 0 → ∃ i', i' < 4 ∧ (ds i').1 1 ≠ 0 ∧ oC (ds i') = oM se id pr en be th bs k := by
    intro ht
    obtain ⟨i', hi', he⟩ := l4_find s1.symm hk
    refine ⟨i', hi', fun z => ?_, he⟩
    rw [oC_out z, oM_in ht] at he
    cases he
  rcases hM with ⟨ht, hmk, hv⟩ | ⟨hnoM, ht, hv⟩
  · simp only [Prod.mk.injEq] at hv
    obtain ⟨rfl, rfl, rfl, rfl, rfl, rfl, rfl⟩ := hv
    obtain ⟨i', hi', h1', he⟩ := back ht
    obtain ⟨-, e1, e2, e3, -⟩ := oCM h1' he
    have hkx' : Kx (ds i').1 a b c := ⟨e1.symm.trans hmk.1, e2.symm.trans hmk.2.1, e3.symm.trans hmk.2.2⟩
    rcases hF with ⟨i, hi, hr, h1, hkx, rfl⟩ | ⟨hno, -⟩
    · by_cases hii : i = i'
      · subst hii
        exact ⟨i, hi, hr, hS, h1, he⟩
      · refine absurd ?_ (s3 i i' hi hi' hii h1 h1')
        exact ⟨hkx.1.trans hkx'.1.symm, hkx.2.1.trans hkx'.2.1.symm, hkx.2.2.trans hkx'.2.2.symm⟩
    · exact absurd hkx' (hno i' hi' h1')
  · simp only [bgM, Prod.mk.injEq] at hv
    obtain ⟨rfl, rfl, rfl, rfl, rfl, rfl, rfl⟩ := hv
    rcases hF with ⟨i, hi, hr, h1, hkx, rfl⟩ | ⟨hno, ⟨i, x, hi, hr, h0, hx, rfl⟩ | ⟨hr, hall, -⟩⟩
    · obtain ⟨k', hk', he⟩ := l4_find s1 hi
      obtain ⟨ht', e1, e2, e3, -⟩ := oCM h1 he.symm
      exact absurd ⟨e1.trans hkx.1, e2.trans hkx.2.1, e3.trans hkx.2.2⟩ (hnoM k' hk' ht')
    · have hd : oC (bg (ds i).1 a b c nw, x) = oM (upd se k a) (upd id k b) (upd pr k c) (upd en k (-1)) (upd be k nw) (upd th k 1) (wrT bs (k * 4096) 4096 (fun _ => 0)) k := by
        refine oCM_of (show (1 : Int32) ≠ 0 by decide) (by rw [pk_us]; decide) pk_us pk_us pk_us pk_us pk_us (fun j hj => ?_)
        show wrT bs (k * 4096) 4096 (fun _ => 0) (k * 4096 + j) = x j + 1
        rw [hx j hj]
        unfold wrT
        rw [if_pos (by omega)]
        show (0 : Int32) = -1 + 1
        decide
      refine ⟨i, hi, hr, sl_upd hS hi hk (by rw [oC_out h0, oM_out ht]) ?_ hd (fun _ => IV_bg hnw hx) (fun _ j hj hji h2 => hno j hj h2) (by rw [pk_us]; decide), ?_, ?_⟩
      · intro j hj
        refine ⟨pk_un hj, pk_un hj, pk_un hj, pk_un hj, pk_un hj, pk_un hj, fun z hz => ?_⟩
        unfold wrT
        rw [if_neg (by omega)]
      · rw [vu_s]
        exact (show (1 : Int32) ≠ 0 by decide)
      · rw [vu_s]
        exact hd
    · obtain ⟨i', hi', he⟩ := l4_find s1.symm hk
      have he : oC (ds i') = oM se id pr en be th bs k := he
      rw [oM_out ht, oC_in (hall i' hi')] at he
      cases he
/-- none is free on both sides, or on none -/
theorem sl_full (S : SL ds se id pr en be th bs nw) {a b c r : Int32} (hF : SF ds a b c nw r ds1) (hnoM : ∀ j, j < 4 → th j ≠ 0 → ¬ MK se id pr j a b c) (hall : ∀ j, j < 4 → th j ≠ 0) : r = -1 ∧ ds1 = ds := by
  obtain ⟨s1, s2, s3, s4⟩ := S
  rcases hF with ⟨i, hi, hr, h1, hkx, rfl⟩ | ⟨hno, ⟨i, x, hi, hr, h0, hx, rfl⟩ | ⟨hr, -, h⟩⟩
  · obtain ⟨k', hk', he⟩ := l4_find s1 hi
    obtain ⟨ht', e1, e2, e3, -⟩ := oCM h1 he.symm
    exact absurd ⟨e1.trans hkx.1, e2.trans hkx.2.1, e3.trans hkx.2.2⟩ (hnoM k' hk' ht')
  · obtain ⟨k', hk', he⟩ := l4_find s1 hi
    have he : oM se id pr en be th bs k' = oC (ds i) := he
    rw [oC_out h0, oM_in (hall k' hk')] at he
    cases he
  · exact ⟨hr, h⟩
end SIM2
