/-! the step of a fragment, of time, and of the counts: both sides alike -/
section SIM4
variable {se id pr en be th bs : F1} {ds : Nat → Dg} {nw : Int32} {i k a b : Nat} {l : Int32} {T U : Nat → Int32}
theorem mp_pt {d : Dg} (h7 : ∀ j, j < 4096 → bs (k * 4096 + j) = d.2 j + 1) (hT : ∀ j, T j = U j &&& 255) : ∀ j, j < 4096 → mp bs (k * 4096 + a) b U (k * 4096 + j) = pt d.2 a b T j + 1 := by
  intro j hj
  unfold mp pt
  by_cases hc : a ≤ j ∧ j < a + b ∧ d.2 j = -1
  · rw [if_pos hc, if_pos ⟨by omega, by omega, by rw [h7 j hj, x1_0]; exact hc.2.2⟩, show k * 4096 + j - (k * 4096 + a) = j - a by omega, hT]
  · rw [if_neg hc, if_neg (fun q => hc ⟨by omega, by omega, by have := q.2.2; rw [h7 j hj, x1_0] at this; exact this⟩), h7 j hj]
theorem mp_loc {j z : Nat} (hab : a + b ≤ 4096) (hj : j ≠ k) (hz : z < 4096) : mp bs (k * 4096 + a) b U (j * 4096 + z) = bs (j * 4096 + z) := by
  unfold mp
  rw [if_neg (by omega)]
theorem jD_n {d : Dg} {j : Nat} (h6 : j ≠ 6) (h7 : j ≠ 7) (h8 : j ≠ 8) : (jD d.1 d.2 a b T l).1 j = d.1 j := by
  show upd _ 8 _ j = _
  rw [pk_un h8, nR_n h6 h7]
theorem jD_6 {d : Dg} : (jD d.1 d.2 a b T l).1 6 = (if l = 0 then d.1 6 else nI (a + b)) := nR_6
def en2f (en : F1) (k t : Nat) (l : Int32) : F1 := if l = 0 then en else upd en k (nI t)
theorem en2_k {t : Nat} : en2f en k t l k = (if l = 0 then en k else nI t) := by
  unfold en2f
  by_cases h : l = 0
  · rw [if_pos h, if_pos h]
  · rw [if_neg h, if_neg h, pk_us]
theorem en2_n {t j : Nat} (hj : j ≠ k) : en2f en k t l j = en j := by
  unfold en2f
  by_cases h : l = 0
  · rw [if_pos h]
  · rw [if_neg h, pk_un hj]
theorem oC_jD {d : Dg} (h1 : d.1 1 ≠ 0) (he : oC d = oM se id pr en be th bs k) (hT : ∀ j, T j = U j &&& 255) : oC (jD d.1 d.2 a b T l) = oM se id pr (en2f en k (a + b) l) be th (mp bs (k * 4096 + a) b U) k := by
  obtain ⟨ht, e2, e3, e4, e5, e6, e7⟩ := oCM h1 he
  refine oCM_of (by rw [jD_n (by decide) (by decide) (by decide)]; exact h1) ht ?_ ?_ ?_ ?_ ?_ (mp_pt e7 hT)
  · rw [jD_n (by decide) (by decide) (by decide)]; exact e2
  · rw [jD_n (by decide) (by decide) (by decide)]; exact e3
  · rw [jD_n (by decide) (by decide) (by decide)]; exact e4
  · rw [jD_n (by decide) (by decide) (by decide)]; exact e5
  · rw [jD_6, en2_k, e6]
theorem en2_le (h : en k ≤ nI 4096) {t : Nat} (ht : t ≤ 4096) : en2f en k t l k ≤ nI 4096 := by
  rw [en2_k]
  split
  · exact h
  · exact nI_le ht (by decide)
/-- dropped on both sides -/
theorem sl_drop (S : SL ds se id pr en be th bs nw) (hi : i < 4) (hk : k < 4) (he : oC (ds i) = oM se id pr en be th bs k) (d : Dg) (hd : d.1 1 = 0) : SL (va_up ds i d) se id pr en be (upd th k 0) bs nw :=
  sl_upd S hi hk he (fun j hj => ⟨rfl, rfl, rfl, rfl, rfl, pk_un hj, fun _ _ => rfl⟩) (by rw [oC_out hd, oM_out pk_us]) (fun z => absurd hd z) (fun z => absurd hd z) (S.2.2.2 k hk)
/-- put in on both sides -/
theorem sl_put (S : SL ds se id pr en be th bs nw) (hi : i < 4) (hk : k < 4) (h1 : (ds i).1 1 ≠ 0) (he : oC (ds i) = oM se id pr en be th bs k) (hT : ∀ j, T j = U j &&& 255) (hs : Snd a b l) (hc : ¬ Ctr (ds i).1 (nI (a + b)) l) :
    SL (va_up ds i (jD (ds i).1 (ds i).2 a b T l)) se id pr (en2f en k (a + b) l) be th (mp bs (k * 4096 + a) b U) nw := by
  refine sl_upd S hi hk he (fun j hj => ⟨rfl, rfl, rfl, en2_n hj, rfl, rfl, fun z hz => mp_loc hs.1 hj hz⟩) (oC_jD h1 he hT) (fun _ => IV_jD (S.2.1 i hi h1) hT hs hc) (fun _ j hj hji h2 => ?_) (en2_le (S.2.2.2 k hk) hs.1)
  rw [jD_n (by decide) (by decide) (by decide), jD_n (by decide) (by decide) (by decide), jD_n (by decide) (by decide) (by decide)]
  exact S.2.2.1 j i hj hi hji h2 h1
/-- whole on both sides, or on none -/
theorem wh_iff {d : Dg} {en9 bs9 : F1} (hI : IV d.1 d.2 nw) (e6 : en9 k = d.1 6) (e7 : ∀ j, j < 4096 → bs9 (k * 4096 + j) = d.2 j + 1) : (∃ e, e ≤ 4096 ∧ en9 k = nI e ∧ ∀ j, j < e → bs9 (k * 4096 + j) ≠ 0) ↔ Wh d := by
  obtain ⟨-, h8, hx, hd⟩ := hI
  unfold Wh
  rw [e6]
  have key : ∀ e, e ≤ 4096 → (∀ j, e ≤ j → j < 4096 → d.2 j = -1) → (d.1 8 = nI e ↔ ∀ j, j < e → bs9 (k * 4096 + j) ≠ 0) := by
    intro e he hb
    have hle := cnt_le (x := d.2) e
    rw [h8, cnt_n 4096 he hb, nI_eq (by omega) (by omega), cnt_all]
    constructor
    · intro q j hj
      rw [e7 j (by omega)]
      exact fun z => q j hj (x1_0.mp z)
    · intro q j hj z
      exact q j hj (by rw [e7 j (by omega)]; exact x1_0.mpr z)
  rcases hd with ⟨h6, -⟩ | ⟨e, he, h6, -, hb⟩
  · constructor
    · intro h
      obtain ⟨e, he, h, -⟩ := h
      exact absurd (h.symm.trans h6) (nI_nm1 (by omega))
    · intro h
      exact absurd h6 h.1
  · constructor
    · intro h
      obtain ⟨e', he', h, h2⟩ := h
      have hee : e = e' := (nI_eq (by omega) (by omega)).mp (h6.symm.trans h)
      subst hee
      exact ⟨by rw [h6]; exact nI_nm1 (by omega), by rw [h6]; exact (key e he hb).mpr h2⟩
    · intro h
      refine ⟨e, he, h6, (key e he hb).mp ?_⟩
      rw [h.2, h6]
end SIM4
/-! time -/
def drp (t : Int32) (o : Option Rc) : Option Rc := match o with
  | none => none
  | some r => if 15000 ≤ t - r.2.1 then none else some r
def pcT (t : Int32) (o : Option Rc) : Bool := match o with
  | none => false
  | some r => decide (15000 ≤ t - r.2.1)
theorem t_iff {x t : Int32} (h0 : 0 ≤ x) (h1 : x ≤ t) (h2 : t ≤ 2000000000) : x + 15000 ≤ t ↔ 15000 ≤ t - x := by
  obtain ⟨a, ha, rfl⟩ := nI_of (Int32.not_lt.mpr h0)
  obtain ⟨b, hb, rfl⟩ := nI_of (Int32.not_lt.mpr (Int32.le_trans h0 h1))
  have hb2 : b ≤ 2000000000 := (nI_leI hb (by decide)).mp h2
  have hab : a ≤ b := (nI_leI ha hb).mp h1
  show nI a + nI 15000 ≤ nI b ↔ nI 15000 ≤ nI b - nI a
  rw [nI_add, pk_sub hab, nI_leI (by omega) hb, nI_leI (by decide) (by omega)]
  omega
section SIM5
variable {se id pr en be th bs : F1} {ds : Nat → Dg} {nw t : Int32}
theorem l4_eq {α : Type} {f g : Nat → α} (h : ∀ i, i < 4 → f i = g i) : l4 f = l4 g := by
  unfold l4
  rw [h 0 (by omega), h 1 (by omega), h 2 (by omega), h 3 (by omega)]
theorem ps_c (S : SL ds se id pr en be th bs nw) (h1 : ¬ t < nw) (h2 : t ≤ 2000000000) {i : Nat} (hi : i < 4) : ((ds i).1 1 ≠ 0 ∧ (ds i).1 5 + 15000 ≤ t) ↔ pcT t (oC (ds i)) = true := by
  by_cases h : (ds i).1 1 = 0
  · rw [oC_out h]
    exact ⟨fun q => absurd h q.1, fun q => by cases q⟩
  · rw [oC_in h]
    obtain ⟨⟨q1, q2⟩, -⟩ := S.2.1 i hi h
    show _ ↔ decide (15000 ≤ t - (ds i).1 5) = true
    rw [decide_eq_true_iff, ← t_iff q1 (Int32.le_trans q2 (Int32.not_lt.mp h1)) h2]
    exact ⟨fun z => z.2, fun z => ⟨h, z⟩⟩
theorem ps_m {k : Nat} : (th k ≠ 0 ∧ 15000 ≤ t - be k) ↔ pcT t (oM se id pr en be th bs k) = true := by
  by_cases h : th k = 0
  · rw [oM_out h]
    exact ⟨fun q => absurd h q.1, fun q => by cases q⟩
  · rw [oM_in h]
    show _ ↔ decide (15000 ≤ t - be k) = true
    rw [decide_eq_true_iff]
    exact ⟨fun z => z.2, fun z => ⟨h, z⟩⟩
theorem drp_c (S : SL ds se id pr en be th bs nw) (h1 : ¬ t < nw) (h2 : t ≤ 2000000000) {i : Nat} (hi : i < 4) : oC (psD t ds 4 i) = drp t (oC (ds i)) := by
  have hc := ps_c S h1 h2 hi
  unfold psD
  by_cases h : (ds i).1 1 ≠ 0 ∧ (ds i).1 5 + 15000 ≤ t
  · rw [if_pos ⟨hi, h⟩, oC_out (show upd (ds i).1 1 0 1 = 0 from rfl), oC_in h.1]
    have h9 := hc.mp h
    rw [oC_in h.1] at h9
    have h9 : decide (15000 ≤ t - (rC (ds i)).2.1) = true := h9
    show none = if _ then none else _
    rw [if_pos (of_decide_eq_true h9)]
  · rw [if_neg (fun z => h z.2)]
    by_cases h0 : (ds i).1 1 = 0
    · rw [oC_out h0]
      rfl
    · have h9 : ¬ pcT t (oC (ds i)) = true := fun z => h (hc.mpr z)
      rw [oC_in h0] at h9 ⊢
      have h9 : ¬ decide (15000 ≤ t - (rC (ds i)).2.1) = true := h9
      show _ = if _ then none else _
      rw [if_neg (fun z => h9 (decide_eq_true z))]
theorem drp_m {k : Nat} (hk : k < 4) : oM se id pr en be (psT t th be 4) bs k = drp t (oM se id pr en be th bs k) := by
  by_cases h : th k ≠ 0 ∧ 15000 ≤ t - be k
  · have e : psT t th be 4 k = 0 := if_pos ⟨hk, h⟩
    rw [oM_out e, oM_in h.1]
    show none = if _ then none else _
    rw [if_pos (show 15000 ≤ t - (rM se id pr en be bs k).2.1 from h.2)]
  · have e : psT t th be 4 k = th k := if_neg (fun z => h z.2)
    by_cases h0 : th k = 0
    · rw [oM_out h0, oM_out (e.trans h0)]
      rfl
    · rw [oM_in h0, oM_in (show psT t th be 4 k ≠ 0 by rw [e]; exact h0)]
      show _ = if _ then none else _
      rw [if_neg (show ¬ 15000 ≤ t - (rM se id pr en be bs k).2.1 from fun z => h ⟨h0, z⟩)]
theorem sl_pass (S : SL ds se id pr en be th bs nw) (h1 : ¬ t < nw) (h2 : t ≤ 2000000000) : SL (psD t ds 4) se id pr en be (psT t th be 4) bs t ∧ psC t ds 4 = psN t th be 4 := by
  have hS := S
  obtain ⟨s1, s2, s3, s4⟩ := S
  have hin : ∀ i, i < 4 → (psD t ds 4 i).1 1 ≠ 0 → (ds i).1 1 ≠ 0 ∧ psD t ds 4 i = ds i := by
    intro i hi h
    unfold psD at h ⊢
    by_cases hc : i < 4 ∧ (ds i).1 1 ≠ 0 ∧ (ds i).1 5 + 15000 ≤ t
    · rw [if_pos hc] at h
      exact absurd rfl h
    · rw [if_neg hc] at h ⊢
      exact ⟨h, rfl⟩
  refine ⟨⟨?_, ?_, ?_, s4⟩, ?_⟩
  · rw [l4_eq (fun i hi => drp_c hS h1 h2 hi), l4_eq (f := oM se id pr en be (psT t th be 4) bs) (g := fun k => drp t (oM se id pr en be th bs k)) (fun k hk => drp_m hk)]
    exact s1.map (drp t)
  · intro i hi h
    obtain ⟨a, b⟩ := hin i hi h
    rw [b]
    obtain ⟨⟨q1, q2⟩, q3⟩ := s2 i hi a
    exact ⟨⟨q1, Int32.le_trans q2 (Int32.not_lt.mp h1)⟩, q3⟩
  · intro i j hi hj hij ha hb
    obtain ⟨a1, b1⟩ := hin i hi ha
    obtain ⟨a2, b2⟩ := hin j hj hb
    rw [b1, b2]
    exact s3 i j hi hj hij a1 a2
  · have hp := s1.countP_eq (pcT t)
    rw [l4_count, l4_count] at hp
    have cI : ∀ i, i < 4 → (if (ds i).1 1 ≠ 0 ∧ (ds i).1 5 + 15000 ≤ t then 1 else 0 : Nat) = (if pcT t (oC (ds i)) = true then 1 else 0) := by
      intro i hi
      by_cases h : (ds i).1 1 ≠ 0 ∧ (ds i).1 5 + 15000 ≤ t
      · rw [if_pos h, if_pos ((ps_c hS h1 h2 hi).mp h)]
      · rw [if_neg h, if_neg (fun z => h ((ps_c hS h1 h2 hi).mpr z))]
    have cM : ∀ k, (if th k ≠ 0 ∧ 15000 ≤ t - be k then 1 else 0 : Nat) = (if pcT t (oM se id pr en be th bs k) = true then 1 else 0) := by
      intro k
      by_cases h : th k ≠ 0 ∧ 15000 ≤ t - be k
      · rw [if_pos h, if_pos (ps_m.mp h)]
      · rw [if_neg h, if_neg (fun z => h (ps_m.mpr z))]
    show 0 + _ + _ + _ + _ = 0 + _ + _ + _ + _
    rw [cI 0 (by omega), cI 1 (by omega), cI 2 (by omega), cI 3 (by omega), cM 0, cM 1, cM 2, cM 3]
    omega
theorem sl_making (S : SL ds se id pr en be th bs nw) : mkC ds 4 = mkM th 4 := by
  have hp := S.1.countP_eq Option.isSome
  rw [l4_count, l4_count] at hp
  have cI : ∀ i, (if (ds i).1 1 = 0 then 0 else 1 : Nat) = (if (oC (ds i)).isSome = true then 1 else 0) := by
    intro i
    by_cases h : (ds i).1 1 = 0
    · rw [if_pos h, oC_out h]
      rfl
    · rw [if_neg h, oC_in h]
      rfl
  have cM : ∀ k, (if th k = 0 then 0 else 1 : Nat) = (if (oM se id pr en be th bs k).isSome = true then 1 else 0) := by
    intro k
    by_cases h : th k = 0
    · rw [if_pos h, oM_out h]
      rfl
    · rw [if_neg h, oM_in h]
      rfl
  show 0 + _ + _ + _ + _ = 0 + _ + _ + _ + _
  rw [cI 0, cI 1, cI 2, cI 3, cM 0, cM 1, cM 2, cM 3]
  omega
end SIM5
