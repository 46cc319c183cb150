/-! the reference's take -/
def MSl (se id pr en be th bs : F1) (a b c t : Int32) (k : Nat) (v : S7) : Prop :=
  (th k ≠ 0 ∧ MK se id pr k a b c ∧ v = (se, id, pr, en, be, th, bs)) ∨ ((∀ j, j < 4 → th j ≠ 0 → ¬ MK se id pr j a b c) ∧ th k = 0 ∧ v = bgM se id pr en be th bs a b c t k)
def mp (bs : F1) (g b : Nat) (T : F1) : F1 := fun j => if g ≤ j ∧ j < g + b ∧ bs j = 0 then (T (j - g) &&& 255) + 1 else bs j
theorem mp_0 (x : F1) (st : Nat) (T : F1) : mp x st 0 T = x := by
  funext j
  unfold mp
  rw [if_neg (by omega)]
theorem mp_at {x : F1} {st i : Nat} {T : F1} : mp x st i T (st + i) = x (st + i) := by
  unfold mp
  rw [if_neg (by omega)]
theorem mp_s1 {x : F1} {st i : Nat} {T : F1} (h : mp x st i T (st + i) = 0) : upd (mp x st i T) (st + i) ((T i &&& 255) + 1) = mp x st (i + 1) T := by
  rw [mp_at] at h
  funext j
  unfold upd mp
  by_cases hj : j = st + i
  · subst hj
    rw [if_pos rfl, if_pos ⟨by omega, by omega, h⟩, show st + i - st = i by omega]
  · rw [if_neg hj]
    by_cases hc : st ≤ j ∧ j < st + i ∧ x j = 0
    · rw [if_pos hc, if_pos ⟨hc.1, by omega, hc.2.2⟩]
    · rw [if_neg hc, if_neg (fun q => hc ⟨q.1, by omega, q.2.2⟩)]
theorem mp_s2 {x : F1} {st i : Nat} {T : F1} (h : ¬ mp x st i T (st + i) = 0) : mp x st i T = mp x st (i + 1) T := by
  rw [mp_at] at h
  funext j
  unfold mp
  by_cases hc : st ≤ j ∧ j < st + i ∧ x j = 0
  · rw [if_pos hc, if_pos ⟨hc.1, by omega, hc.2.2⟩]
  · rw [if_neg hc, if_neg (fun q => hc ⟨q.1, by
      have h1 : j ≠ st + i := fun z => h (z ▸ q.2.2)
      omega, q.2.2⟩)]
def C1m (en : F1) (k t : Nat) (l : Int32) : Prop := 0 ≤ en k ∧ (en k < nI t ∨ (l ≠ 0 ∧ nI t ≠ en k))
def C2m (bs : F1) (k t : Nat) (l : Int32) (e : Nat) : Prop := l ≠ 0 ∧ ∃ j, t ≤ j ∧ j < e ∧ 0 < bs (k * 4096 + j)
theorem C2_0 {bs : F1} {k t : Nat} {l : Int32} : ¬ C2m bs k t l t := fun x => by
  obtain ⟨_, j, h1, h2, _⟩ := x
  omega
theorem C2_z {bs : F1} {k t e : Nat} {l : Int32} (h : l = 0) : ¬ C2m bs k t l e := fun x => x.1 h
theorem C2_s1 {bs : F1} {k t i : Nat} {l : Int32} (h : C2m bs k t l i) : C2m bs k t l (i + 1) := by
  obtain ⟨h0, j, h1, h2, h3⟩ := h
  exact ⟨h0, j, h1, by omega, h3⟩
theorem C2_s2 {bs : F1} {k t i : Nat} {l : Int32} (h0 : l ≠ 0) (h1 : t ≤ i) (h : 0 < bs (k * 4096 + i)) : C2m bs k t l (i + 1) := ⟨h0, i, h1, by omega, h⟩
theorem C2_s3 {bs : F1} {k t i : Nat} {l : Int32} (h : ¬ C2m bs k t l i) (h1 : bs (k * 4096 + i) ≤ 0) : ¬ C2m bs k t l (i + 1) := by
  intro x
  obtain ⟨h0, j, h2, h3, h4⟩ := x
  by_cases hj : j = i
  · subst hj
    exact absurd h4 (Int32.not_lt.mpr h1)
  · exact h ⟨h0, j, h2, by omega, h4⟩
abbrev Sm : Type := Nat × S7 × F1 × Int32 × Int32
def MJ (se id pr en be th bs wh : F1) (len md : Int32) (T : F1) (k a b : Nat) (l r : Int32) (u : Sm) : Prop :=
  ((C1m en k (a + b) l ∨ C2m bs k (a + b) l 4096) ∧ r = -3 ∧ u = (0, (se, id, pr, en, be, upd th k 0, bs), wh, len, md)) ∨
  (¬ (C1m en k (a + b) l ∨ C2m bs k (a + b) l 4096) ∧ ∃ en2 bs2 : F1, en2 = (if l = 0 then en else upd en k (nI (a + b))) ∧ bs2 = mp bs (k * 4096 + a) b T ∧
    (((en2 k < 0 ∨ ∃ e, e ≤ 4096 ∧ en2 k = nI e ∧ ∃ j, j < e ∧ bs2 (k * 4096 + j) = 0) ∧ r = -1 ∧ u = (0, (se, id, pr, en2, be, th, bs2), wh, len, md)) ∨
     (∃ e, e ≤ 4096 ∧ en2 k = nI e ∧ (∀ j, j < e → bs2 (k * 4096 + j) ≠ 0) ∧ ∃ wh2 : F1, (∀ j, j < e → wh2 j = bs2 (k * 4096 + j) - 1) ∧ r = nI e ∧ u = (0, (se, id, pr, en2, be, upd th k 0, bs2), wh2, nI e, md + 1))))
def MT (se id pr en be th bs wh : F1) (len md nw : Int32) (T : F1) (q : Nat) (p1 p2 p3 p4 p5 r : Int32) (u : Sm) : Prop :=
  (r = -4 ∧ (p4 < 0 ∨ ¬ p4 ≤ nI 8191) ∧ u = (q, (se, id, pr, en, be, th, bs), wh, len, md)) ∨
  (∃ o, o ≤ 8191 ∧ p4 = nI o ∧
    ((¬ Snd (o * 8) q p5 ∧ r = -2 ∧ u = (0, (se, id, pr, en, be, th, bs), wh, len, md)) ∨
     (Snd (o * 8) q p5 ∧
       (((∀ j, j < 4 → th j ≠ 0 → ¬ MK se id pr j p1 p2 p3) ∧ (∀ j, j < 4 → th j ≠ 0) ∧ r = -2 ∧ u = (0, (se, id, pr, en, be, th, bs), wh, len, md)) ∨
        (∃ k, k < 4 ∧ ∃ se1 id1 pr1 en1 be1 th1 bs1 : F1, MSl se id pr en be th bs p1 p2 p3 nw k (se1, id1, pr1, en1, be1, th1, bs1) ∧ MJ se1 id1 pr1 en1 be1 th1 bs1 wh len md T k (o * 8) q p5 r u)))))
set_option maxHeartbeats 4000000 in
set_option maxRecDepth 100000 in
/-- take -/
theorem m_take (l : Launch) (dC : Nat → ClassId) (dI : Nat → Nat → Nat) (cI cB cZ : ClassId) (a : Nat → Nat) (T se0 id0 pr0 en0 be0 th0 bs0 wh : Nat → Int32) (len md nw : Int32) (p1 p2 p3 p4 p5 : Int32) (q : Nat) (sz : Nat) (hq : q ≤ 1480) (hen0 : ∀ k, k < 4 → en0 k ≤ nI 4096) : Met l yX2_take wsX2_take ({ frames := 1, cells := 0, slots := 0, locals := 25 }) (va_Pc [.ref (a 0), .int p1, .int p2, .int p3, .int p4, .int p5] (PW (dC, dI) vwCl [(cI, .int), (cB, .byte), (cZ, .boolean)] (wM cI cB cZ a T se0 id0 pr0 en0 be0 th0 bs0 wh (nI q) len md nw) sz)) (va_Qi (S := Sm) (fun r u => MT se0 id0 pr0 en0 be0 th0 bs0 wh len md nw T q p1 p2 p3 p4 p5 r u) (QW (dC, dI) vwCl (fun _ => [(cI, .int), (cB, .byte), (cZ, .boolean)]) (va_A (wM cI cB cZ a T se0 id0 pr0 en0 be0 th0 bs0 wh (nI q) len md nw) sz) (fun u => wM cI cB cZ a T u.2.1.1 u.2.1.2.1 u.2.1.2.2.1 u.2.1.2.2.2.1 u.2.1.2.2.2.2.1 u.2.1.2.2.2.2.2.1 u.2.1.2.2.2.2.2.2 u.2.2.1 (nI u.1) u.2.2.2.1 u.2.2.2.2 nw)) (va_A (wM cI cB cZ a T se0 id0 pr0 en0 be0 th0 bs0 wh (nI q) len md nw) sz)) 0 0 (va_A (wM cI cB cZ a T se0 id0 pr0 en0 be0 th0 bs0 wh (nI q) len md nw) sz) := by
  refine Met.ofW (cc := cX2_take) (maxL := 12) (ret := (some .int)) (by decide) rfl ?_
  intro p e s m args below meth c s₁ B hml hv
  obtain ⟨rfl, hsz, hP, hK, hD0⟩ := hv
  have hx := B.exec
  have hb := B.bytes
  have hr := B.returns
  have hts := atoms_spec (ws := wsX2_take) B.pre
  have hown : s.vm.findClass RX2 = some m.cls := findClass_of_methodNamed B.named
  have hlocks := B.notSynchronized
  subst hsz
  have hD := hD0.self (sz := s.heap.size)
  generalize hAe : va_A (wM cI cB cZ a T se0 id0 pr0 en0 be0 th0 bs0 wh (nI q) len md nw) s.heap.size = A at hD ⊢
  have hA : ∀ q : Nat, s.heap.size ≤ q → A q := fun q h => by rw [← hAe]; exact Or.inr h
  have hS : va_S A s.heap s.heap [] := va_S.rf
  have hl := lv_entry ([.ref (a 0), .int p1, .int p2, .int p3, .int p4, .int p5]) (n := 12) (Nat.le_of_ble_eq_true rfl)
  rw [lg_entry_eq]
  generalize (lg_sl ([.ref (a 0), .int p1, .int p2, .int p3, .int p4, .int p5]) ++ List.replicate (12 - (lg_sl ([.ref (a 0), .int p1, .int p2, .int p3, .int p4, .int p5])).length) Slot.unset).toArray = ls at hl ⊢
  have hl : lv_has ls 12 [(0, .ref (a 0)), (1, .int p1), (2, .int p2), (3, .int p3), (4, .int p4), (5, .int p5)] := hl
  refine fh_start (fun H hH => ?_)
  have hP : va_P (dC, dI) vwCl (wM cI cB cZ a T se0 id0 pr0 en0 be0 th0 bs0 wh (nI q) len md nw) H := by rw [hH]; exact hP
  have hS : va_S A s.heap H [] := by rw [hH]; exact va_S.rf
  refine fh_cut (pc2 := 70) (σ := Nat) (fun q9 H locs ls => (q9 ≤ 8191) ∧ (p4 = nI q9) ∧ (Snd (q9 * 8) q p5) ∧ va_P (dC, dI) vwCl (wM cI cB cZ a T se0 id0 pr0 en0 be0 th0 bs0 wh (nI 0) len md nw) H ∧ va_D A (wM cI cB cZ a T se0 id0 pr0 en0 be0 th0 bs0 wh (nI 0) len md nw) ∧ va_S A s.heap H locs ∧ lv_has ls 12 [(0, .ref (a 0)), (1, .int p1), (2, .int p2), (3, .int p3), (5, .int p5), (6, .int (nI q)), (7, .int (nI (q9 * 8))), (8, .int (nI (q9 * 8 + q)))]) ?_ (fun J70 => ?_)
  · intro q9 H locs ls hI
    obtain ⟨o, rfl⟩ : ∃ z, z = q9 := ⟨_, rfl⟩
    obtain ⟨ho, hp4, hsd, hP, hD, hS, hl⟩ : (o ≤ 8191) ∧ (p4 = nI o) ∧ (Snd (o * 8) q p5) ∧ va_P (dC, dI) vwCl (wM cI cB cZ a T se0 id0 pr0 en0 be0 th0 bs0 wh (nI 0) len md nw) H ∧ va_D A (wM cI cB cZ a T se0 id0 pr0 en0 be0 th0 bs0 wh (nI 0) len md nw) ∧ va_S A s.heap H locs ∧ lv_has ls 12 [(0, .ref (a 0)), (1, .int p1), (2, .int p2), (3, .int p3), (5, .int p5), (6, .int (nI q)), (7, .int (nI (o * 8))), (8, .int (nI (o * 8 + q)))] := hI
    refine fh_cut (pc2 := 101) (σ := Nat × (Nat → Int32) × (Nat → Int32) × (Nat → Int32) × (Nat → Int32) × (Nat → Int32) × (Nat → Int32) × (Nat → Int32)) (fun q9 H locs ls => (q9.1 < 4) ∧ (MSl se0 id0 pr0 en0 be0 th0 bs0 p1 p2 p3 nw q9.1 (q9.2.1, q9.2.2.1, q9.2.2.2.1, q9.2.2.2.2.1, q9.2.2.2.2.2.1, q9.2.2.2.2.2.2.1, q9.2.2.2.2.2.2.2)) ∧ (q9.2.2.2.2.1 q9.1 ≤ nI 4096) ∧ va_P (dC, dI) vwCl (wM cI cB cZ a T q9.2.1 q9.2.2.1 q9.2.2.2.1 q9.2.2.2.2.1 q9.2.2.2.2.2.1 q9.2.2.2.2.2.2.1 q9.2.2.2.2.2.2.2 wh (nI 0) len md nw) H ∧ va_D A (wM cI cB cZ a T q9.2.1 q9.2.2.1 q9.2.2.2.1 q9.2.2.2.2.1 q9.2.2.2.2.2.1 q9.2.2.2.2.2.2.1 q9.2.2.2.2.2.2.2 wh (nI 0) len md nw) ∧ va_S A s.heap H locs ∧ lv_has ls 12 [(0, .ref (a 0)), (5, .int p5), (6, .int (nI q)), (7, .int (nI (o * 8))), (8, .int (nI (o * 8 + q))), (9, .int (nI q9.1))]) ?_ (fun J101 => ?_)
    · intro q9 H locs ls hI
      obtain ⟨k, se, id, pr, en, be, th, bs⟩ := q9
      obtain ⟨hk, hM, hen, hP, hD, hS, hl⟩ : (k < 4) ∧ (MSl se0 id0 pr0 en0 be0 th0 bs0 p1 p2 p3 nw k (se, id, pr, en, be, th, bs)) ∧ (en k ≤ nI 4096) ∧ va_P (dC, dI) vwCl (wM cI cB cZ a T se id pr en be th bs wh (nI 0) len md nw) H ∧ va_D A (wM cI cB cZ a T se id pr en be th bs wh (nI 0) len md nw) ∧ va_S A s.heap H locs ∧ lv_has ls 12 [(0, .ref (a 0)), (5, .int p5), (6, .int (nI q)), (7, .int (nI (o * 8))), (8, .int (nI (o * 8 + q))), (9, .int (nI k))] := hI
      refine fh_cut (pc2 := 147) (σ := Int32) (fun q9 H locs ls => ((q9 = 1 ∧ C1m en k (o * 8 + q) p5) ∨ (q9 = 0 ∧ ¬ C1m en k (o * 8 + q) p5)) ∧ va_P (dC, dI) vwCl (wM cI cB cZ a T se id pr en be th bs wh (nI 0) len md nw) H ∧ va_D A (wM cI cB cZ a T se id pr en be th bs wh (nI 0) len md nw) ∧ va_S A s.heap H locs ∧ lv_has ls 12 [(0, .ref (a 0)), (5, .int p5), (6, .int (nI q)), (7, .int (nI (o * 8))), (8, .int (nI (o * 8 + q))), (9, .int (nI k)), (10, .int q9)]) ?_ (fun J147 => ?_)
      · intro q9 H locs ls hI
        obtain ⟨wg, rfl⟩ : ∃ z, z = q9 := ⟨_, rfl⟩
        obtain ⟨hwg, hP, hD, hS, hl⟩ : ((wg = 1 ∧ C1m en k (o * 8 + q) p5) ∨ (wg = 0 ∧ ¬ C1m en k (o * 8 + q) p5)) ∧ va_P (dC, dI) vwCl (wM cI cB cZ a T se id pr en be th bs wh (nI 0) len md nw) H ∧ va_D A (wM cI cB cZ a T se id pr en be th bs wh (nI 0) len md nw) ∧ va_S A s.heap H locs ∧ lv_has ls 12 [(0, .ref (a 0)), (5, .int p5), (6, .int (nI q)), (7, .int (nI (o * 8))), (8, .int (nI (o * 8 + q))), (9, .int (nI k)), (10, .int wg)] := hI
        refine fh_cut (pc2 := 199) (σ := Int32) (fun q9 H locs ls => ((q9 = 1 ∧ (C1m en k (o * 8 + q) p5 ∨ C2m bs k (o * 8 + q) p5 4096)) ∨ (q9 = 0 ∧ ¬ (C1m en k (o * 8 + q) p5 ∨ C2m bs k (o * 8 + q) p5 4096))) ∧ va_P (dC, dI) vwCl (wM cI cB cZ a T se id pr en be th bs wh (nI 0) len md nw) H ∧ va_D A (wM cI cB cZ a T se id pr en be th bs wh (nI 0) len md nw) ∧ va_S A s.heap H locs ∧ lv_has ls 12 [(0, .ref (a 0)), (5, .int p5), (6, .int (nI q)), (7, .int (nI (o * 8))), (8, .int (nI (o * 8 + q))), (9, .int (nI k)), (10, .int q9)]) ?_ (fun J199 => ?_)
        · intro q9 H locs ls hI
          obtain ⟨wg, rfl⟩ : ∃ z, z = q9 := ⟨_, rfl⟩
          obtain ⟨hwg, hP, hD, hS, hl⟩ : ((wg = 1 ∧ (C1m en k (o * 8 + q) p5 ∨ C2m bs k (o * 8 + q) p5 4096)) ∨ (wg = 0 ∧ ¬ (C1m en k (o * 8 + q) p5 ∨ C2m bs k (o * 8 + q) p5 4096))) ∧ va_P (dC, dI) vwCl (wM cI cB cZ a T se id pr en be th bs wh (nI 0) len md nw) H ∧ va_D A (wM cI cB cZ a T se id pr en be th bs wh (nI 0) len md nw) ∧ va_S A s.heap H locs ∧ lv_has ls 12 [(0, .ref (a 0)), (5, .int p5), (6, .int (nI q)), (7, .int (nI (o * 8))), (8, .int (nI (o * 8 + q))), (9, .int (nI k)), (10, .int wg)] := hI
          refine fh_cut (pc2 := 229) (σ := (Nat → Int32)) (fun q9 H locs ls => (¬ (C1m en k (o * 8 + q) p5 ∨ C2m bs k (o * 8 + q) p5 4096)) ∧ (q9 = (if p5 = 0 then en else upd en k (nI (o * 8 + q)))) ∧ va_P (dC, dI) vwCl (wM cI cB cZ a T se id pr q9 be th bs wh (nI 0) len md nw) H ∧ va_D A (wM cI cB cZ a T se id pr q9 be th bs wh (nI 0) len md nw) ∧ va_S A s.heap H locs ∧ lv_has ls 12 [(0, .ref (a 0)), (6, .int (nI q)), (7, .int (nI (o * 8))), (9, .int (nI k))]) ?_ (fun J229 => ?_)
          · intro q9 H locs ls hI
            obtain ⟨en2, rfl⟩ : ∃ z, z = q9 := ⟨_, rfl⟩
            obtain ⟨hnw, hen2, hP, hD, hS, hl⟩ : (¬ (C1m en k (o * 8 + q) p5 ∨ C2m bs k (o * 8 + q) p5 4096)) ∧ (en2 = (if p5 = 0 then en else upd en k (nI (o * 8 + q)))) ∧ va_P (dC, dI) vwCl (wM cI cB cZ a T se id pr en2 be th bs wh (nI 0) len md nw) H ∧ va_D A (wM cI cB cZ a T se id pr en2 be th bs wh (nI 0) len md nw) ∧ va_S A s.heap H locs ∧ lv_has ls 12 [(0, .ref (a 0)), (6, .int (nI q)), (7, .int (nI (o * 8))), (9, .int (nI k))] := hI
            refine lv_iconst (v := nI 0) hx hb dX2_take_229 (by first | decide | rfl) ?_
            refine lv_istore (lv' := [(11, .int (nI 0)), (0, .ref (a 0)), (6, .int (nI q)), (7, .int (nI (o * 8))), (9, .int (nI k))]) hx hb dX2_take_230 hl (by decide) rfl (fun ls hl => ?_)
            have hP : va_P (dC, dI) vwCl (wM cI cB cZ a T se id pr en2 be th (mp bs (k * 4096 + o * 8) 0 T) wh (nI 0) len md nw) H := by rw [mp_0]; exact hP
            have hD : va_D A (wM cI cB cZ a T se id pr en2 be th (mp bs (k * 4096 + o * 8) 0 T) wh (nI 0) len md nw) := by rw [mp_0]; exact hD
            refine fh_loop (σ := Nat) (fun q9 H locs ls => (q9 ≤ q) ∧ va_P (dC, dI) vwCl (wM cI cB cZ a T se id pr en2 be th (mp bs (k * 4096 + o * 8) q9 T) wh (nI 0) len md nw) H ∧ va_D A (wM cI cB cZ a T se id pr en2 be th (mp bs (k * 4096 + o * 8) q9 T) wh (nI 0) len md nw) ∧ va_S A s.heap H locs ∧ lv_has ls 12 [(0, .ref (a 0)), (6, .int (nI q)), (7, .int (nI (o * 8))), (9, .int (nI k)), (11, .int (nI q9))]) (fun q9 => q - q9) ?_ (0) ⟨Nat.zero_le _, hP, hD, hS, lv_sub hl [1, 2, 3, 4, 0] rfl⟩
            intro q9 H locs ls hI ih
            obtain ⟨i, rfl⟩ : ∃ z, z = q9 := ⟨_, rfl⟩
            obtain ⟨hi, hP, hD, hS, hl⟩ : (i ≤ q) ∧ va_P (dC, dI) vwCl (wM cI cB cZ a T se id pr en2 be th (mp bs (k * 4096 + o * 8) i T) wh (nI 0) len md nw) H ∧ va_D A (wM cI cB cZ a T se id pr en2 be th (mp bs (k * 4096 + o * 8) i T) wh (nI 0) len md nw) ∧ va_S A s.heap H locs ∧ lv_has ls 12 [(0, .ref (a 0)), (6, .int (nI q)), (7, .int (nI (o * 8))), (9, .int (nI k)), (11, .int (nI i))] := hI
            refine lv_iload hx hb dX2_take_232 (lv_at hl 4 rfl) ?_
            refine lv_iload hx hb dX2_take_234 (lv_at hl 1 rfl) ?_
            refine lv_icmp_ge (tgt := 295) hx hb dX2_take_236 (by decide) (fun c236 => ?_) (fun c236 => ?_)
            · skip
              refine lv_aload_n hx hb dX2_take_295 rfl (lv_at hl 0 rfl) ?_
              refine va_get (D := (dC, dI)) (ci := 2) (v := .ref (a 5)) (C := RX2) (T := TX2) (N := 13) hx hb hts (by decide +kernel) hown hK hP 0 rfl rfl 5 (by decide) (hts (.fieldLink RX2 23 "FragmentHouseModel" "ends" "[I") (by decide +kernel)) (fun _ h9 => h9) rfl dX2_take_296 ?_
              refine lv_iload hx hb dX2_take_299 (lv_at hl 3 rfl) ?_
              refine fh_iald (k := k) hx hb hK hP 5 0 rfl rfl hk (by first | decide | omega) dX2_take_301 ?_
              refine lv_if_ge (tgt := 307) hx hb dX2_take_302 (by decide) (fun c302 => ?_) (fun c302 => ?_)
              · skip
                have hiq : i = q := Nat.le_antisymm hi ((nI_leI (by omega) (by omega)).mp c236)
                rw [hiq] at hP hD
                have hle2 : en2 k ≤ nI 4096 := by rw [hen2]; split; exact hen; rw [pk_us]; exact nI_le hsd.1 (by decide)
                obtain ⟨e9, he, hee⟩ : ∃ e9, e9 ≤ 4096 ∧ en2 k = nI e9 := nI_of2 (by decide) (Int32.not_lt.mpr c302) hle2
                refine lv_iconst (v := nI 0) hx hb dX2_take_307 (by first | decide | rfl) ?_
                refine lv_istore (lv' := [(11, .int (nI 0)), (0, .ref (a 0)), (6, .int (nI q)), (7, .int (nI (o * 8))), (9, .int (nI k))]) hx hb dX2_take_308 hl (by decide) rfl (fun ls hl => ?_)
                refine fh_loop (σ := Nat) (fun q9 H locs ls => (q9 ≤ e9) ∧ (∀ j, j < q9 → (mp bs (k * 4096 + o * 8) q T) (k * 4096 + j) ≠ 0) ∧ va_P (dC, dI) vwCl (wM cI cB cZ a T se id pr en2 be th (mp bs (k * 4096 + o * 8) q T) wh (nI 0) len md nw) H ∧ va_D A (wM cI cB cZ a T se id pr en2 be th (mp bs (k * 4096 + o * 8) q T) wh (nI 0) len md nw) ∧ va_S A s.heap H locs ∧ lv_has ls 12 [(0, .ref (a 0)), (9, .int (nI k)), (11, .int (nI q9))]) (fun q9 => e9 - q9) ?_ (0) ⟨Nat.zero_le _, fun j h => absurd h (Nat.not_lt_zero _), hP, hD, hS, lv_sub hl [1, 4, 0] rfl⟩
                intro q9 H locs ls hI ih
                obtain ⟨i, rfl⟩ : ∃ z, z = q9 := ⟨_, rfl⟩
                obtain ⟨hi, hall, hP, hD, hS, hl⟩ : (i ≤ e9) ∧ (∀ j, j < i → (mp bs (k * 4096 + o * 8) q T) (k * 4096 + j) ≠ 0) ∧ va_P (dC, dI) vwCl (wM cI cB cZ a T se id pr en2 be th (mp bs (k * 4096 + o * 8) q T) wh (nI 0) len md nw) H ∧ va_D A (wM cI cB cZ a T se id pr en2 be th (mp bs (k * 4096 + o * 8) q T) wh (nI 0) len md nw) ∧ va_S A s.heap H locs ∧ lv_has ls 12 [(0, .ref (a 0)), (9, .int (nI k)), (11, .int (nI i))] := hI
                refine lv_iload hx hb dX2_take_310 (lv_at hl 2 rfl) ?_
                refine lv_aload_n hx hb dX2_take_312 rfl (lv_at hl 0 rfl) ?_
                refine va_get (D := (dC, dI)) (ci := 2) (v := .ref (a 5)) (C := RX2) (T := TX2) (N := 13) hx hb hts (by decide +kernel) hown hK hP 0 rfl rfl 5 (by decide) (hts (.fieldLink RX2 23 "FragmentHouseModel" "ends" "[I") (by decide +kernel)) (fun _ h9 => h9) rfl dX2_take_313 ?_
                refine lv_iload hx hb dX2_take_316 (lv_at hl 1 rfl) ?_
                refine fh_iald (k := k) hx hb hK hP 5 0 rfl rfl hk (by first | decide | omega) dX2_take_318 ?_
                refine fh_top (y := nI e9) hee ?_
                refine lv_icmp_ge (tgt := 347) hx hb dX2_take_319 (by decide) (fun c319 => ?_) (fun c319 => ?_)
                · skip
                  have hie : i = e9 := Nat.le_antisymm hi ((nI_leI (by omega) (by omega)).mp c319)
                  rw [hie] at hall
                  refine lv_aload_n hx hb dX2_take_347 rfl (lv_at hl 0 rfl) ?_
                  refine lv_aload_n hx hb dX2_take_348 rfl (lv_at hl 0 rfl) ?_
                  refine va_get (D := (dC, dI)) (ci := 2) (v := .ref (a 5)) (C := RX2) (T := TX2) (N := 13) hx hb hts (by decide +kernel) hown hK hP 0 rfl rfl 5 (by decide) (hts (.fieldLink RX2 23 "FragmentHouseModel" "ends" "[I") (by decide +kernel)) (fun _ h9 => h9) rfl dX2_take_349 ?_
                  refine lv_iload hx hb dX2_take_352 (lv_at hl 1 rfl) ?_
                  refine fh_iald (k := k) hx hb hK hP 5 0 rfl rfl hk (by first | decide | omega) dX2_take_354 ?_
                  refine fh_top (y := nI e9) hee ?_
                  refine va_put (D := (dC, dI)) (ci := 2) (v := .int (nI e9)) (ty := .int) (C := RX2) (T := TX2) (N := 13) hx hb hts (by decide +kernel) tyX2 tyX2_ok nmX2 hown hK hP hD hS 0 rfl rfl 10 (by decide) (hts (.fieldLink RX2 39 "FragmentHouseModel" "length" "I") (by decide +kernel)) (fun _ h9 => h9) rfl (by decide +kernel) rfl rfl (Nat.le_of_ble_eq_true rfl) dX2_take_355 (fun H locs hP hD hS => ?_)
                  have hP : va_P (dC, dI) vwCl (wM cI cB cZ a T se id pr en2 be th (mp bs (k * 4096 + o * 8) q T) wh (nI 0) ((nI e9)) md nw) H := hP
                  have hD : va_D A (wM cI cB cZ a T se id pr en2 be th (mp bs (k * 4096 + o * 8) q T) wh (nI 0) ((nI e9)) md nw) := hD
                  refine lv_iconst (v := nI 0) hx hb dX2_take_358 (by first | decide | rfl) ?_
                  refine lv_istore (lv' := [(11, .int (nI 0)), (0, .ref (a 0)), (9, .int (nI k))]) hx hb dX2_take_359 hl (by decide) rfl (fun ls hl => ?_)
                  refine fh_loop (σ := Nat × (Nat → Int32)) (fun q9 H locs ls => (q9.1 ≤ e9) ∧ (∀ j, j < q9.1 → q9.2 j = (mp bs (k * 4096 + o * 8) q T) (k * 4096 + j) - 1) ∧ va_P (dC, dI) vwCl (wM cI cB cZ a T se id pr en2 be th (mp bs (k * 4096 + o * 8) q T) q9.2 (nI 0) (nI e9) md nw) H ∧ va_D A (wM cI cB cZ a T se id pr en2 be th (mp bs (k * 4096 + o * 8) q T) q9.2 (nI 0) (nI e9) md nw) ∧ va_S A s.heap H locs ∧ lv_has ls 12 [(0, .ref (a 0)), (9, .int (nI k)), (11, .int (nI q9.1))]) (fun q9 => e9 - q9.1) ?_ (0, wh) ⟨Nat.zero_le _, fun j h => absurd h (Nat.not_lt_zero _), hP, hD, hS, lv_sub hl [1, 2, 0] rfl⟩
                  intro q9 H locs ls hI ih
                  obtain ⟨i, wh⟩ := q9
                  obtain ⟨hi, hwh, hP, hD, hS, hl⟩ : (i ≤ e9) ∧ (∀ j, j < i → wh j = (mp bs (k * 4096 + o * 8) q T) (k * 4096 + j) - 1) ∧ va_P (dC, dI) vwCl (wM cI cB cZ a T se id pr en2 be th (mp bs (k * 4096 + o * 8) q T) wh (nI 0) (nI e9) md nw) H ∧ va_D A (wM cI cB cZ a T se id pr en2 be th (mp bs (k * 4096 + o * 8) q T) wh (nI 0) (nI e9) md nw) ∧ va_S A s.heap H locs ∧ lv_has ls 12 [(0, .ref (a 0)), (9, .int (nI k)), (11, .int (nI i))] := hI
                  refine lv_iload hx hb dX2_take_361 (lv_at hl 2 rfl) ?_
                  refine lv_aload_n hx hb dX2_take_363 rfl (lv_at hl 0 rfl) ?_
                  refine va_get (D := (dC, dI)) (ci := 2) (v := .int (nI e9)) (C := RX2) (T := TX2) (N := 13) hx hb hts (by decide +kernel) hown hK hP 0 rfl rfl 10 (by decide) (hts (.fieldLink RX2 39 "FragmentHouseModel" "length" "I") (by decide +kernel)) (fun _ h9 => h9) rfl dX2_take_364 ?_
                  refine lv_icmp_ge (tgt := 399) hx hb dX2_take_367 (by decide) (fun c367 => ?_) (fun c367 => ?_)
                  · skip
                    refine lv_aload_n hx hb dX2_take_399 rfl (lv_at hl 0 rfl) ?_
                    refine va_get (D := (dC, dI)) (ci := 2) (v := .ref (a 7)) (C := RX2) (T := TX2) (N := 13) hx hb hts (by decide +kernel) hown hK hP 0 rfl rfl 7 (by decide) (hts (.fieldLink RX2 29 "FragmentHouseModel" "there" "[Z") (by decide +kernel)) (fun _ h9 => h9) rfl dX2_take_400 ?_
                    refine lv_iload hx hb dX2_take_403 (lv_at hl 1 rfl) ?_
                    refine lv_iconst (v := 0) hx hb dX2_take_405 (by first | decide | rfl) ?_
                    refine fh_zast (k := k) hx hb hK hP hD hS 7 2 rfl rfl rfl hk (by first | decide | omega) dX2_take_406 (fun H locs hP hD hS => ?_)
                    have hP : va_P (dC, dI) vwCl (wM cI cB cZ a T se id pr en2 be (upd th k 0) (mp bs (k * 4096 + o * 8) q T) wh (nI 0) (nI e9) md nw) H := hP
                    have hD : va_D A (wM cI cB cZ a T se id pr en2 be (upd th k 0) (mp bs (k * 4096 + o * 8) q T) wh (nI 0) (nI e9) md nw) := hD
                    refine lv_aload_n hx hb dX2_take_407 rfl (lv_at hl 0 rfl) ?_
                    refine lv_dup hx hb dX2_take_408 rfl ?_
                    refine va_get (D := (dC, dI)) (ci := 2) (v := .int md) (C := RX2) (T := TX2) (N := 13) hx hb hts (by decide +kernel) hown hK hP 0 rfl rfl 11 (by decide) (hts (.fieldLink RX2 60 "FragmentHouseModel" "made" "I") (by decide +kernel)) (fun _ h9 => h9) rfl dX2_take_409 ?_
                    refine lv_iconst (v := 1) hx hb dX2_take_412 (by first | decide | rfl) ?_
                    refine lv_iadd hx hb dX2_take_413 ?_
                    refine va_put (D := (dC, dI)) (ci := 2) (v := .int (md + 1)) (ty := .int) (C := RX2) (T := TX2) (N := 13) hx hb hts (by decide +kernel) tyX2 tyX2_ok nmX2 hown hK hP hD hS 0 rfl rfl 11 (by decide) (hts (.fieldLink RX2 60 "FragmentHouseModel" "made" "I") (by decide +kernel)) (fun _ h9 => h9) rfl (by decide +kernel) rfl rfl (Nat.le_of_ble_eq_true rfl) dX2_take_414 (fun H locs hP hD hS => ?_)
                    have hP : va_P (dC, dI) vwCl (wM cI cB cZ a T se id pr en2 be (upd th k 0) (mp bs (k * 4096 + o * 8) q T) wh (nI 0) (nI e9) ((md + 1)) nw) H := hP
                    have hD : va_D A (wM cI cB cZ a T se id pr en2 be (upd th k 0) (mp bs (k * 4096 + o * 8) q T) wh (nI 0) (nI e9) ((md + 1)) nw) := hD
                    refine lv_aload_n hx hb dX2_take_417 rfl (lv_at hl 0 rfl) ?_
                    refine va_get (D := (dC, dI)) (ci := 2) (v := .int (nI e9)) (C := RX2) (T := TX2) (N := 13) hx hb hts (by decide +kernel) hown hK hP 0 rfl rfl 10 (by decide) (hts (.fieldLink RX2 39 "FragmentHouseModel" "length" "I") (by decide +kernel)) (fun _ h9 => h9) rfl dX2_take_418 ?_
                    obtain rfl : i = e9 := Nat.le_antisymm hi ((nI_leI (by omega) (by omega)).mp c367)
                    exact W.iret hx hb hr (fh_qi (0, (se, id, pr, en2, be, upd th k 0, (mp bs (k * 4096 + o * 8) q T)), wh, nI i, md + 1) (Or.inr ⟨o, ho, hp4, Or.inr ⟨hsd, Or.inr ⟨k, hk, se, id, pr, en, be, th, bs, hM, Or.inr ⟨hnw, en2, (mp bs (k * 4096 + o * 8) q T), hen2, rfl, Or.inr ⟨i, he, hee, hall, wh, hwh, rfl, rfl⟩⟩⟩⟩⟩) hP hK hD hS) hS.2.2 dX2_take_421
                  · skip
                    have hlt : i < e9 := Nat.lt_of_not_le (fun h => c367 (nI_le h (by omega)))
                    refine lv_aload_n hx hb dX2_take_370 rfl (lv_at hl 0 rfl) ?_
                    refine va_get (D := (dC, dI)) (ci := 2) (v := .ref (a 9)) (C := RX2) (T := TX2) (N := 13) hx hb hts (by decide +kernel) hown hK hP 0 rfl rfl 9 (by decide) (hts (.fieldLink RX2 36 "FragmentHouseModel" "whole" "[I") (by decide +kernel)) (fun _ h9 => h9) rfl dX2_take_371 ?_
                    refine lv_iload hx hb dX2_take_374 (lv_at hl 2 rfl) ?_
                    refine lv_aload_n hx hb dX2_take_376 rfl (lv_at hl 0 rfl) ?_
                    refine va_get (D := (dC, dI)) (ci := 2) (v := .ref (a 8)) (C := RX2) (T := TX2) (N := 13) hx hb hts (by decide +kernel) hown hK hP 0 rfl rfl 8 (by decide) (hts (.fieldLink RX2 33 "FragmentHouseModel" "bytes" "[I") (by decide +kernel)) (fun _ h9 => h9) rfl dX2_take_377 ?_
                    refine lv_iload hx hb dX2_take_380 (lv_at hl 1 rfl) ?_
                    refine lv_sipush (v := nI 4096) hx hb dX2_take_382 (by first | decide | rfl) ?_
                    refine lv_imul hx hb dX2_take_385 ?_
                    refine fh_top (y := nI (k * 4096)) (pk_mul k 4096) ?_
                    refine lv_iload hx hb dX2_take_386 (lv_at hl 2 rfl) ?_
                    refine lv_iadd hx hb dX2_take_388 ?_
                    refine fh_top (y := nI (k * 4096 + i)) (nI_add (k * 4096) i) ?_
                    refine fh_iald (k := (k * 4096 + i)) hx hb hK hP 8 0 rfl rfl (by omega) (by first | decide | omega) dX2_take_389 ?_
                    refine lv_iconst (v := 1) hx hb dX2_take_390 (by first | decide | rfl) ?_
                    refine lv_isub hx hb dX2_take_391 ?_
                    refine fh_iast (k := i) hx hb hK hP hD hS 9 0 rfl rfl (by omega) (by first | decide | omega) dX2_take_392 (fun H locs hP hD hS => ?_)
                    have hP : va_P (dC, dI) vwCl (wM cI cB cZ a T se id pr en2 be th (mp bs (k * 4096 + o * 8) q T) (upd wh i ((((mp bs (k * 4096 + o * 8) q T) ((k * 4096 + i))) - 1))) (nI 0) (nI e9) md nw) H := hP
                    have hD : va_D A (wM cI cB cZ a T se id pr en2 be th (mp bs (k * 4096 + o * 8) q T) (upd wh i ((((mp bs (k * 4096 + o * 8) q T) ((k * 4096 + i))) - 1))) (nI 0) (nI e9) md nw) := hD
                    refine lv_iinc (v := (nI (i + 1))) (lv' := [(11, .int (nI (i + 1))), (0, .ref (a 0)), (9, .int (nI k))]) hx hb dX2_take_393 hl (k := 2) rfl (nI_1 i) (by decide) rfl (fun ls hl => ?_)
                    refine lv_goto (tgt := 361) hx hb dX2_take_396 (by decide) ?_
                    exact ih (i + 1, upd wh i ((((mp bs (k * 4096 + o * 8) q T) ((k * 4096 + i))) - 1))) _ _ _ ⟨hlt, lt_s (fun j h => (pk_un (Nat.ne_of_lt h)).trans (hwh j h)) pk_us, hP, hD, hS, lv_sub hl [1, 2, 0] rfl⟩ (by show e9 - (i + 1) < e9 - i; omega)
                · skip
                  have hlt : i < e9 := Nat.lt_of_not_le (fun h => c319 (nI_le h (by omega)))
                  refine lv_aload_n hx hb dX2_take_322 rfl (lv_at hl 0 rfl) ?_
                  refine va_get (D := (dC, dI)) (ci := 2) (v := .ref (a 8)) (C := RX2) (T := TX2) (N := 13) hx hb hts (by decide +kernel) hown hK hP 0 rfl rfl 8 (by decide) (hts (.fieldLink RX2 33 "FragmentHouseModel" "bytes" "[I") (by decide +kernel)) (fun _ h9 => h9) rfl dX2_take_323 ?_
                  refine lv_iload hx hb dX2_take_326 (lv_at hl 1 rfl) ?_
                  refine lv_sipush (v := nI 4096) hx hb dX2_take_328 (by first | decide | rfl) ?_
                  refine lv_imul hx hb dX2_take_331 ?_
                  refine fh_top (y := nI (k * 4096)) (pk_mul k 4096) ?_
                  refine lv_iload hx hb dX2_take_332 (lv_at hl 2 rfl) ?_
                  refine lv_iadd hx hb dX2_take_334 ?_
                  refine fh_top (y := nI (k * 4096 + i)) (nI_add (k * 4096) i) ?_
                  refine fh_iald (k := (k * 4096 + i)) hx hb hK hP 8 0 rfl rfl (by omega) (by first | decide | omega) dX2_take_335 ?_
                  refine lv_if_ne (tgt := 341) hx hb dX2_take_336 (by decide) (fun c336 => ?_) (fun c336 => ?_)
                  · skip
                    refine lv_iinc (v := (nI (i + 1))) (lv' := [(11, .int (nI (i + 1))), (0, .ref (a 0)), (9, .int (nI k))]) hx hb dX2_take_341 hl (k := 2) rfl (nI_1 i) (by decide) rfl (fun ls hl => ?_)
                    refine lv_goto (tgt := 310) hx hb dX2_take_344 (by decide) ?_
                    exact ih (i + 1) _ _ _ ⟨hlt, lt_s hall c336, hP, hD, hS, lv_sub hl [1, 2, 0] rfl⟩ (by show e9 - (i + 1) < e9 - i; omega)
                  · skip
                    refine lv_iconst (v := (-1)) hx hb dX2_take_339 (by first | decide | rfl) ?_
                    exact W.iret hx hb hr (fh_qi (0, (se, id, pr, en2, be, th, (mp bs (k * 4096 + o * 8) q T)), wh, len, md) (Or.inr ⟨o, ho, hp4, Or.inr ⟨hsd, Or.inr ⟨k, hk, se, id, pr, en, be, th, bs, hM, Or.inr ⟨hnw, en2, (mp bs (k * 4096 + o * 8) q T), hen2, rfl, Or.inl ⟨Or.inr ⟨e9, he, hee, i, hlt, c336⟩, rfl, rfl⟩⟩⟩⟩⟩) hP hK hD hS) hS.2.2 dX2_take_340
              · skip
                refine lv_iconst (v := (-1)) hx hb dX2_take_305 (by first | decide | rfl) ?_
                have hiq : i = q := Nat.le_antisymm hi ((nI_leI (by omega) (by omega)).mp c236)
                rw [hiq] at hP hD
                exact W.iret hx hb hr (fh_qi (0, (se, id, pr, en2, be, th, (mp bs (k * 4096 + o * 8) q T)), wh, len, md) (Or.inr ⟨o, ho, hp4, Or.inr ⟨hsd, Or.inr ⟨k, hk, se, id, pr, en, be, th, bs, hM, Or.inr ⟨hnw, en2, (mp bs (k * 4096 + o * 8) q T), hen2, rfl, Or.inl ⟨Or.inl (Int32.not_le.mp c302), rfl, rfl⟩⟩⟩⟩⟩) hP hK hD hS) hS.2.2 dX2_take_306
            · skip
              have hlt : i < q := Nat.lt_of_not_le (fun h => c236 (nI_le h (by omega)))
              have hsd1 := hsd.1
              refine lv_aload_n hx hb dX2_take_239 rfl (lv_at hl 0 rfl) ?_
              refine va_get (D := (dC, dI)) (ci := 2) (v := .ref (a 8)) (C := RX2) (T := TX2) (N := 13) hx hb hts (by decide +kernel) hown hK hP 0 rfl rfl 8 (by decide) (hts (.fieldLink RX2 33 "FragmentHouseModel" "bytes" "[I") (by decide +kernel)) (fun _ h9 => h9) rfl dX2_take_240 ?_
              refine lv_iload hx hb dX2_take_243 (lv_at hl 3 rfl) ?_
              refine lv_sipush (v := nI 4096) hx hb dX2_take_245 (by first | decide | rfl) ?_
              refine lv_imul hx hb dX2_take_248 ?_
              refine fh_top (y := nI (k * 4096)) (pk_mul k 4096) ?_
              refine lv_iload hx hb dX2_take_249 (lv_at hl 2 rfl) ?_
              refine lv_iadd hx hb dX2_take_251 ?_
              refine fh_top (y := nI (k * 4096 + o * 8)) (nI_add (k * 4096) (o * 8)) ?_
              refine lv_iload hx hb dX2_take_252 (lv_at hl 4 rfl) ?_
              refine lv_iadd hx hb dX2_take_254 ?_
              refine fh_top (y := nI (k * 4096 + o * 8 + i)) (nI_add (k * 4096 + o * 8) i) ?_
              refine fh_iald (k := (k * 4096 + o * 8 + i)) hx hb hK hP 8 0 rfl rfl (by omega) (by first | decide | omega) dX2_take_255 ?_
              refine lv_if_ne (tgt := 289) hx hb dX2_take_256 (by decide) (fun c256 => ?_) (fun c256 => ?_)
              · skip
                refine lv_iinc (v := (nI (i + 1))) (lv' := [(11, .int (nI (i + 1))), (0, .ref (a 0)), (6, .int (nI q)), (7, .int (nI (o * 8))), (9, .int (nI k))]) hx hb dX2_take_289 hl (k := 4) rfl (nI_1 i) (by decide) rfl (fun ls hl => ?_)
                refine lv_goto (tgt := 232) hx hb dX2_take_292 (by decide) ?_
                have hP : va_P (dC, dI) vwCl (wM cI cB cZ a T se id pr en2 be th (mp bs (k * 4096 + o * 8) (i + 1) T) wh (nI 0) len md nw) H := by rw [← mp_s2 c256]; exact hP
                have hD : va_D A (wM cI cB cZ a T se id pr en2 be th (mp bs (k * 4096 + o * 8) (i + 1) T) wh (nI 0) len md nw) := by rw [← mp_s2 c256]; exact hD
                exact ih (i + 1) _ _ _ ⟨hlt, hP, hD, hS, lv_sub hl [1, 2, 3, 4, 0] rfl⟩ (by show q - (i + 1) < q - i; omega)
              · skip
                refine lv_aload_n hx hb dX2_take_259 rfl (lv_at hl 0 rfl) ?_
                refine va_get (D := (dC, dI)) (ci := 2) (v := .ref (a 8)) (C := RX2) (T := TX2) (N := 13) hx hb hts (by decide +kernel) hown hK hP 0 rfl rfl 8 (by decide) (hts (.fieldLink RX2 33 "FragmentHouseModel" "bytes" "[I") (by decide +kernel)) (fun _ h9 => h9) rfl dX2_take_260 ?_
                refine lv_iload hx hb dX2_take_263 (lv_at hl 3 rfl) ?_
                refine lv_sipush (v := nI 4096) hx hb dX2_take_265 (by first | decide | rfl) ?_
                refine lv_imul hx hb dX2_take_268 ?_
                refine fh_top (y := nI (k * 4096)) (pk_mul k 4096) ?_
                refine lv_iload hx hb dX2_take_269 (lv_at hl 2 rfl) ?_
                refine lv_iadd hx hb dX2_take_271 ?_
                refine fh_top (y := nI (k * 4096 + o * 8)) (nI_add (k * 4096) (o * 8)) ?_
                refine lv_iload hx hb dX2_take_272 (lv_at hl 4 rfl) ?_
                refine lv_iadd hx hb dX2_take_274 ?_
                refine fh_top (y := nI (k * 4096 + o * 8 + i)) (nI_add (k * 4096 + o * 8) i) ?_
                refine lv_aload_n hx hb dX2_take_275 rfl (lv_at hl 0 rfl) ?_
                refine va_get (D := (dC, dI)) (ci := 2) (v := .ref (a 1)) (C := RX2) (T := TX2) (N := 13) hx hb hts (by decide +kernel) hown hK hP 0 rfl rfl 0 (by decide) (hts (.fieldLink RX2 9 "FragmentHouseModel" "tray" "[B") (by decide +kernel)) (fun _ h9 => h9) rfl dX2_take_276 ?_
                refine lv_iload hx hb dX2_take_279 (lv_at hl 4 rfl) ?_
                refine fh_bald (k := i) hx hb hK hP 1 1 rfl rfl (by omega) (by first | decide | omega) dX2_take_281 ?_
                refine lv_sipush (v := 255) hx hb dX2_take_282 (by first | decide | rfl) ?_
                refine lv_iand hx hb dX2_take_285 ?_
                refine lv_iconst (v := 1) hx hb dX2_take_286 (by first | decide | rfl) ?_
                refine lv_iadd hx hb dX2_take_287 ?_
                refine fh_iast (k := (k * 4096 + o * 8 + i)) hx hb hK hP hD hS 8 0 rfl rfl (by omega) (by first | decide | omega) dX2_take_288 (fun H locs hP hD hS => ?_)
                have hP : va_P (dC, dI) vwCl (wM cI cB cZ a T se id pr en2 be th (upd ((mp bs (k * 4096 + o * 8) i T)) ((k * 4096 + o * 8 + i)) ((((T i) &&& 255) + 1))) wh (nI 0) len md nw) H := hP
                have hD : va_D A (wM cI cB cZ a T se id pr en2 be th (upd ((mp bs (k * 4096 + o * 8) i T)) ((k * 4096 + o * 8 + i)) ((((T i) &&& 255) + 1))) wh (nI 0) len md nw) := hD
                refine lv_iinc (v := (nI (i + 1))) (lv' := [(11, .int (nI (i + 1))), (0, .ref (a 0)), (6, .int (nI q)), (7, .int (nI (o * 8))), (9, .int (nI k))]) hx hb dX2_take_289 hl (k := 4) rfl (nI_1 i) (by decide) rfl (fun ls hl => ?_)
                refine lv_goto (tgt := 232) hx hb dX2_take_292 (by decide) ?_
                have hP : va_P (dC, dI) vwCl (wM cI cB cZ a T se id pr en2 be th (mp bs (k * 4096 + o * 8) (i + 1) T) wh (nI 0) len md nw) H := by rw [← mp_s1 c256]; exact hP
                have hD : va_D A (wM cI cB cZ a T se id pr en2 be th (mp bs (k * 4096 + o * 8) (i + 1) T) wh (nI 0) len md nw) := by rw [← mp_s1 c256]; exact hD
                exact ih (i + 1) _ _ _ ⟨hlt, hP, hD, hS, lv_sub hl [1, 2, 3, 4, 0] rfl⟩ (by show q - (i + 1) < q - i; omega)
          · skip
            refine lv_iload hx hb dX2_take_199 (lv_at hl 6 rfl) ?_
            refine lv_if_eq (tgt := 215) hx hb dX2_take_201 (by decide) (fun c201 => ?_) (fun c201 => ?_)
            · skip
              have hnw : ¬ (C1m en k (o * 8 + q) p5 ∨ C2m bs k (o * 8 + q) p5 4096) := hwg.elim (fun z => absurd (z.1.symm.trans c201) (by decide)) (fun z => z.2)
              refine lv_iload hx hb dX2_take_215 (lv_at hl 1 rfl) ?_
              refine lv_if_eq (tgt := 229) hx hb dX2_take_217 (by decide) (fun c217 => ?_) (fun c217 => ?_)
              · skip
                exact J229 (en) _ _ _ ⟨hnw, (if_pos c217).symm, hP, hD, hS, lv_sub hl [0, 2, 3, 5] rfl⟩
              · skip
                refine lv_aload_n hx hb dX2_take_220 rfl (lv_at hl 0 rfl) ?_
                refine va_get (D := (dC, dI)) (ci := 2) (v := .ref (a 5)) (C := RX2) (T := TX2) (N := 13) hx hb hts (by decide +kernel) hown hK hP 0 rfl rfl 5 (by decide) (hts (.fieldLink RX2 23 "FragmentHouseModel" "ends" "[I") (by decide +kernel)) (fun _ h9 => h9) rfl dX2_take_221 ?_
                refine lv_iload hx hb dX2_take_224 (lv_at hl 5 rfl) ?_
                refine lv_iload hx hb dX2_take_226 (lv_at hl 4 rfl) ?_
                refine fh_iast (k := k) hx hb hK hP hD hS 5 0 rfl rfl hk (by first | decide | omega) dX2_take_228 (fun H locs hP hD hS => ?_)
                have hP : va_P (dC, dI) vwCl (wM cI cB cZ a T se id pr (upd en k ((nI (o * 8 + q)))) be th bs wh (nI 0) len md nw) H := hP
                have hD : va_D A (wM cI cB cZ a T se id pr (upd en k ((nI (o * 8 + q)))) be th bs wh (nI 0) len md nw) := hD
                exact J229 (upd en k (nI (o * 8 + q))) _ _ _ ⟨hnw, (if_neg c217).symm, hP, hD, hS, lv_sub hl [0, 2, 3, 5] rfl⟩
            · skip
              have hwr : (C1m en k (o * 8 + q) p5 ∨ C2m bs k (o * 8 + q) p5 4096) := hwg.elim (fun z => z.2) (fun z => absurd z.1 c201)
              refine lv_aload_n hx hb dX2_take_204 rfl (lv_at hl 0 rfl) ?_
              refine va_get (D := (dC, dI)) (ci := 2) (v := .ref (a 7)) (C := RX2) (T := TX2) (N := 13) hx hb hts (by decide +kernel) hown hK hP 0 rfl rfl 7 (by decide) (hts (.fieldLink RX2 29 "FragmentHouseModel" "there" "[Z") (by decide +kernel)) (fun _ h9 => h9) rfl dX2_take_205 ?_
              refine lv_iload hx hb dX2_take_208 (lv_at hl 5 rfl) ?_
              refine lv_iconst (v := 0) hx hb dX2_take_210 (by first | decide | rfl) ?_
              refine fh_zast (k := k) hx hb hK hP hD hS 7 2 rfl rfl rfl hk (by first | decide | omega) dX2_take_211 (fun H locs hP hD hS => ?_)
              have hP : va_P (dC, dI) vwCl (wM cI cB cZ a T se id pr en be (upd th k 0) bs wh (nI 0) len md nw) H := hP
              have hD : va_D A (wM cI cB cZ a T se id pr en be (upd th k 0) bs wh (nI 0) len md nw) := hD
              refine lv_bipush (v := (-3)) hx hb dX2_take_212 (by first | decide | rfl) ?_
              exact W.iret hx hb hr (fh_qi (0, (se, id, pr, en, be, upd th k 0, bs), wh, len, md) (Or.inr ⟨o, ho, hp4, Or.inr ⟨hsd, Or.inr ⟨k, hk, se, id, pr, en, be, th, bs, hM, Or.inl ⟨hwr, rfl, rfl⟩⟩⟩⟩) hP hK hD hS) hS.2.2 dX2_take_214
        · skip
          refine lv_iload hx hb dX2_take_147 (lv_at hl 4 rfl) ?_
          refine lv_istore (lv' := [(11, .int (nI (o * 8 + q))), (0, .ref (a 0)), (5, .int p5), (6, .int (nI q)), (7, .int (nI (o * 8))), (8, .int (nI (o * 8 + q))), (9, .int (nI k)), (10, .int wg)]) hx hb dX2_take_149 hl (by decide) rfl (fun ls hl => ?_)
          refine fh_loop (σ := Nat × Int32) (fun q9 H locs ls => (o * 8 + q ≤ q9.1 ∧ q9.1 ≤ 4096) ∧ ((q9.2 = 1 ∧ (C1m en k (o * 8 + q) p5 ∨ C2m bs k (o * 8 + q) p5 q9.1)) ∨ (q9.2 = 0 ∧ ¬ (C1m en k (o * 8 + q) p5 ∨ C2m bs k (o * 8 + q) p5 q9.1))) ∧ va_P (dC, dI) vwCl (wM cI cB cZ a T se id pr en be th bs wh (nI 0) len md nw) H ∧ va_D A (wM cI cB cZ a T se id pr en be th bs wh (nI 0) len md nw) ∧ va_S A s.heap H locs ∧ lv_has ls 12 [(0, .ref (a 0)), (5, .int p5), (6, .int (nI q)), (7, .int (nI (o * 8))), (8, .int (nI (o * 8 + q))), (9, .int (nI k)), (10, .int q9.2), (11, .int (nI q9.1))]) (fun q9 => 4096 - q9.1) ?_ (o * 8 + q, wg) ⟨⟨Nat.le_refl _, hsd.1⟩, hwg.elim (fun z => Or.inl ⟨z.1, Or.inl z.2⟩) (fun z => Or.inr ⟨z.1, fun y => y.elim z.2 C2_0⟩), hP, hD, hS, lv_sub hl [1, 2, 3, 4, 5, 6, 7, 0] rfl⟩
          intro q9 H locs ls hI ih
          obtain ⟨i, wg⟩ := q9
          obtain ⟨hi, hwg, hP, hD, hS, hl⟩ : (o * 8 + q ≤ i ∧ i ≤ 4096) ∧ ((wg = 1 ∧ (C1m en k (o * 8 + q) p5 ∨ C2m bs k (o * 8 + q) p5 i)) ∨ (wg = 0 ∧ ¬ (C1m en k (o * 8 + q) p5 ∨ C2m bs k (o * 8 + q) p5 i))) ∧ va_P (dC, dI) vwCl (wM cI cB cZ a T se id pr en be th bs wh (nI 0) len md nw) H ∧ va_D A (wM cI cB cZ a T se id pr en be th bs wh (nI 0) len md nw) ∧ va_S A s.heap H locs ∧ lv_has ls 12 [(0, .ref (a 0)), (5, .int p5), (6, .int (nI q)), (7, .int (nI (o * 8))), (8, .int (nI (o * 8 + q))), (9, .int (nI k)), (10, .int wg), (11, .int (nI i))] := hI
          refine lv_iload hx hb dX2_take_151 (lv_at hl 7 rfl) ?_
          refine lv_sipush (v := nI 4096) hx hb dX2_take_153 (by first | decide | rfl) ?_
          refine lv_icmp_ge (tgt := 199) hx hb dX2_take_156 (by decide) (fun c156 => ?_) (fun c156 => ?_)
          · skip
            exact J199 (wg) _ _ _ ⟨(by obtain rfl : i = 4096 := Nat.le_antisymm hi.2 ((nI_leI (by decide) (by omega)).mp c156); exact hwg), hP, hD, hS, lv_sub hl [0, 1, 2, 3, 4, 5, 6] rfl⟩
          · skip
            have hlt : i < 4096 := Nat.lt_of_not_le (fun h => c156 (nI_le h (by omega)))
            have hsd1 := hsd.1
            refine lv_iload hx hb dX2_take_159 (lv_at hl 1 rfl) ?_
            refine lv_if_eq (tgt := 199) hx hb dX2_take_161 (by decide) (fun c161 => ?_) (fun c161 => ?_)
            · skip
              exact J199 (wg) _ _ _ ⟨hwg.elim (fun z => Or.inl ⟨z.1, z.2.elim Or.inl (fun y => absurd y (C2_z c161))⟩) (fun z => Or.inr ⟨z.1, fun y => y.elim (fun x => z.2 (Or.inl x)) (C2_z c161)⟩), hP, hD, hS, lv_sub hl [0, 1, 2, 3, 4, 5, 6] rfl⟩
            · skip
              refine lv_iload hx hb dX2_take_164 (lv_at hl 6 rfl) ?_
              refine lv_if_ne (tgt := 186) hx hb dX2_take_166 (by decide) (fun c166 => ?_) (fun c166 => ?_)
              · skip
                refine lv_iconst (v := 1) hx hb dX2_take_186 (by first | decide | rfl) ?_
                refine lv_goto (tgt := 191) hx hb dX2_take_187 (by decide) ?_
                refine lv_istore (lv' := [(10, .int 1), (0, .ref (a 0)), (5, .int p5), (6, .int (nI q)), (7, .int (nI (o * 8))), (8, .int (nI (o * 8 + q))), (9, .int (nI k)), (11, .int (nI i))]) hx hb dX2_take_191 hl (by decide) rfl (fun ls hl => ?_)
                refine lv_iinc (v := (nI (i + 1))) (lv' := [(11, .int (nI (i + 1))), (10, .int 1), (0, .ref (a 0)), (5, .int p5), (6, .int (nI q)), (7, .int (nI (o * 8))), (8, .int (nI (o * 8 + q))), (9, .int (nI k))]) hx hb dX2_take_193 hl (k := 7) rfl (nI_1 i) (by decide) rfl (fun ls hl => ?_)
                refine lv_goto (tgt := 151) hx hb dX2_take_196 (by decide) ?_
                exact ih (i + 1, 1) _ _ _ ⟨⟨by omega, hlt⟩, hwg.elim (fun z => Or.inl ⟨rfl, z.2.elim Or.inl (fun y => Or.inr (C2_s1 y))⟩) (fun z => absurd z.1 c166), hP, hD, hS, lv_sub hl [2, 3, 4, 5, 6, 7, 1, 0] rfl⟩ (by show 4096 - (i + 1) < 4096 - i; omega)
              · skip
                refine lv_aload_n hx hb dX2_take_169 rfl (lv_at hl 0 rfl) ?_
                refine va_get (D := (dC, dI)) (ci := 2) (v := .ref (a 8)) (C := RX2) (T := TX2) (N := 13) hx hb hts (by decide +kernel) hown hK hP 0 rfl rfl 8 (by decide) (hts (.fieldLink RX2 33 "FragmentHouseModel" "bytes" "[I") (by decide +kernel)) (fun _ h9 => h9) rfl dX2_take_170 ?_
                refine lv_iload hx hb dX2_take_173 (lv_at hl 5 rfl) ?_
                refine lv_sipush (v := nI 4096) hx hb dX2_take_175 (by first | decide | rfl) ?_
                refine lv_imul hx hb dX2_take_178 ?_
                refine fh_top (y := nI (k * 4096)) (pk_mul k 4096) ?_
                refine lv_iload hx hb dX2_take_179 (lv_at hl 7 rfl) ?_
                refine lv_iadd hx hb dX2_take_181 ?_
                refine fh_top (y := nI (k * 4096 + i)) (nI_add (k * 4096) i) ?_
                refine fh_iald (k := (k * 4096 + i)) hx hb hK hP 8 0 rfl rfl (by omega) (by first | decide | omega) dX2_take_182 ?_
                refine lv_if_le (tgt := 190) hx hb dX2_take_183 (by decide) (fun c183 => ?_) (fun c183 => ?_)
                · skip
                  refine lv_iconst (v := 0) hx hb dX2_take_190 (by first | decide | rfl) ?_
                  refine lv_istore (lv' := [(10, .int 0), (0, .ref (a 0)), (5, .int p5), (6, .int (nI q)), (7, .int (nI (o * 8))), (8, .int (nI (o * 8 + q))), (9, .int (nI k)), (11, .int (nI i))]) hx hb dX2_take_191 hl (by decide) rfl (fun ls hl => ?_)
                  refine lv_iinc (v := (nI (i + 1))) (lv' := [(11, .int (nI (i + 1))), (10, .int 0), (0, .ref (a 0)), (5, .int p5), (6, .int (nI q)), (7, .int (nI (o * 8))), (8, .int (nI (o * 8 + q))), (9, .int (nI k))]) hx hb dX2_take_193 hl (k := 7) rfl (nI_1 i) (by decide) rfl (fun ls hl => ?_)
                  refine lv_goto (tgt := 151) hx hb dX2_take_196 (by decide) ?_
                  exact ih (i + 1, 0) _ _ _ ⟨⟨by omega, hlt⟩, hwg.elim (fun z => absurd (z.1.symm.trans c166) (by decide)) (fun z => Or.inr ⟨rfl, fun y => y.elim (fun x => z.2 (Or.inl x)) (C2_s3 (fun x => z.2 (Or.inr x)) c183)⟩), hP, hD, hS, lv_sub hl [2, 3, 4, 5, 6, 7, 1, 0] rfl⟩ (by show 4096 - (i + 1) < 4096 - i; omega)
                · skip
                  refine lv_iconst (v := 1) hx hb dX2_take_186 (by first | decide | rfl) ?_
                  refine lv_goto (tgt := 191) hx hb dX2_take_187 (by decide) ?_
                  refine lv_istore (lv' := [(10, .int 1), (0, .ref (a 0)), (5, .int p5), (6, .int (nI q)), (7, .int (nI (o * 8))), (8, .int (nI (o * 8 + q))), (9, .int (nI k)), (11, .int (nI i))]) hx hb dX2_take_191 hl (by decide) rfl (fun ls hl => ?_)
                  refine lv_iinc (v := (nI (i + 1))) (lv' := [(11, .int (nI (i + 1))), (10, .int 1), (0, .ref (a 0)), (5, .int p5), (6, .int (nI q)), (7, .int (nI (o * 8))), (8, .int (nI (o * 8 + q))), (9, .int (nI k))]) hx hb dX2_take_193 hl (k := 7) rfl (nI_1 i) (by decide) rfl (fun ls hl => ?_)
                  refine lv_goto (tgt := 151) hx hb dX2_take_196 (by decide) ?_
                  exact ih (i + 1, 1) _ _ _ ⟨⟨by omega, hlt⟩, Or.inl ⟨rfl, Or.inr (C2_s2 c161 hi.1 (Int32.not_le.mp c183))⟩, hP, hD, hS, lv_sub hl [2, 3, 4, 5, 6, 7, 1, 0] rfl⟩ (by show 4096 - (i + 1) < 4096 - i; omega)
      · skip
        refine lv_aload_n hx hb dX2_take_101 rfl (lv_at hl 0 rfl) ?_
        refine va_get (D := (dC, dI)) (ci := 2) (v := .ref (a 5)) (C := RX2) (T := TX2) (N := 13) hx hb hts (by decide +kernel) hown hK hP 0 rfl rfl 5 (by decide) (hts (.fieldLink RX2 23 "FragmentHouseModel" "ends" "[I") (by decide +kernel)) (fun _ h9 => h9) rfl dX2_take_102 ?_
        refine lv_iload hx hb dX2_take_105 (lv_at hl 5 rfl) ?_
        refine fh_iald (k := k) hx hb hK hP 5 0 rfl rfl hk (by first | decide | omega) dX2_take_107 ?_
        refine lv_if_lt (tgt := 144) hx hb dX2_take_108 (by decide) (fun c108 => ?_) (fun c108 => ?_)
        · skip
          refine lv_iconst (v := 0) hx hb dX2_take_144 (by first | decide | rfl) ?_
          refine lv_istore (lv' := [(10, .int 0), (0, .ref (a 0)), (5, .int p5), (6, .int (nI q)), (7, .int (nI (o * 8))), (8, .int (nI (o * 8 + q))), (9, .int (nI k))]) hx hb dX2_take_145 hl (by decide) rfl (fun ls hl => ?_)
          exact J147 (0) _ _ _ ⟨Or.inr ⟨rfl, fun z => absurd z.1 (Int32.not_le.mpr c108)⟩, hP, hD, hS, lv_sub hl [1, 2, 3, 4, 5, 6, 0] rfl⟩
        · skip
          refine lv_iload hx hb dX2_take_111 (lv_at hl 4 rfl) ?_
          refine lv_aload_n hx hb dX2_take_113 rfl (lv_at hl 0 rfl) ?_
          refine va_get (D := (dC, dI)) (ci := 2) (v := .ref (a 5)) (C := RX2) (T := TX2) (N := 13) hx hb hts (by decide +kernel) hown hK hP 0 rfl rfl 5 (by decide) (hts (.fieldLink RX2 23 "FragmentHouseModel" "ends" "[I") (by decide +kernel)) (fun _ h9 => h9) rfl dX2_take_114 ?_
          refine lv_iload hx hb dX2_take_117 (lv_at hl 5 rfl) ?_
          refine fh_iald (k := k) hx hb hK hP 5 0 rfl rfl hk (by first | decide | omega) dX2_take_119 ?_
          refine lv_icmp_gt (tgt := 140) hx hb dX2_take_120 (by decide) (fun c120 => ?_) (fun c120 => ?_)
          · skip
            refine lv_iconst (v := 1) hx hb dX2_take_140 (by first | decide | rfl) ?_
            refine lv_goto (tgt := 145) hx hb dX2_take_141 (by decide) ?_
            refine lv_istore (lv' := [(10, .int 1), (0, .ref (a 0)), (5, .int p5), (6, .int (nI q)), (7, .int (nI (o * 8))), (8, .int (nI (o * 8 + q))), (9, .int (nI k))]) hx hb dX2_take_145 hl (by decide) rfl (fun ls hl => ?_)
            exact J147 (1) _ _ _ ⟨Or.inl ⟨rfl, Int32.not_lt.mp c108, Or.inl c120⟩, hP, hD, hS, lv_sub hl [1, 2, 3, 4, 5, 6, 0] rfl⟩
          · skip
            refine lv_iload hx hb dX2_take_123 (lv_at hl 1 rfl) ?_
            refine lv_if_eq (tgt := 144) hx hb dX2_take_125 (by decide) (fun c125 => ?_) (fun c125 => ?_)
            · skip
              refine lv_iconst (v := 0) hx hb dX2_take_144 (by first | decide | rfl) ?_
              refine lv_istore (lv' := [(10, .int 0), (0, .ref (a 0)), (5, .int p5), (6, .int (nI q)), (7, .int (nI (o * 8))), (8, .int (nI (o * 8 + q))), (9, .int (nI k))]) hx hb dX2_take_145 hl (by decide) rfl (fun ls hl => ?_)
              exact J147 (0) _ _ _ ⟨Or.inr ⟨rfl, fun z => z.2.elim c120 (fun y => y.1 c125)⟩, hP, hD, hS, lv_sub hl [1, 2, 3, 4, 5, 6, 0] rfl⟩
            · skip
              refine lv_iload hx hb dX2_take_128 (lv_at hl 4 rfl) ?_
              refine lv_aload_n hx hb dX2_take_130 rfl (lv_at hl 0 rfl) ?_
              refine va_get (D := (dC, dI)) (ci := 2) (v := .ref (a 5)) (C := RX2) (T := TX2) (N := 13) hx hb hts (by decide +kernel) hown hK hP 0 rfl rfl 5 (by decide) (hts (.fieldLink RX2 23 "FragmentHouseModel" "ends" "[I") (by decide +kernel)) (fun _ h9 => h9) rfl dX2_take_131 ?_
              refine lv_iload hx hb dX2_take_134 (lv_at hl 5 rfl) ?_
              refine fh_iald (k := k) hx hb hK hP 5 0 rfl rfl hk (by first | decide | omega) dX2_take_136 ?_
              refine lv_icmp_eq (tgt := 144) hx hb dX2_take_137 (by decide) (fun c137 => ?_) (fun c137 => ?_)
              · skip
                refine lv_iconst (v := 0) hx hb dX2_take_144 (by first | decide | rfl) ?_
                refine lv_istore (lv' := [(10, .int 0), (0, .ref (a 0)), (5, .int p5), (6, .int (nI q)), (7, .int (nI (o * 8))), (8, .int (nI (o * 8 + q))), (9, .int (nI k))]) hx hb dX2_take_145 hl (by decide) rfl (fun ls hl => ?_)
                exact J147 (0) _ _ _ ⟨Or.inr ⟨rfl, fun z => z.2.elim c120 (fun y => y.2 c137)⟩, hP, hD, hS, lv_sub hl [1, 2, 3, 4, 5, 6, 0] rfl⟩
              · skip
                refine lv_iconst (v := 1) hx hb dX2_take_140 (by first | decide | rfl) ?_
                refine lv_goto (tgt := 145) hx hb dX2_take_141 (by decide) ?_
                refine lv_istore (lv' := [(10, .int 1), (0, .ref (a 0)), (5, .int p5), (6, .int (nI q)), (7, .int (nI (o * 8))), (8, .int (nI (o * 8 + q))), (9, .int (nI k))]) hx hb dX2_take_145 hl (by decide) rfl (fun ls hl => ?_)
                exact J147 (1) _ _ _ ⟨Or.inl ⟨rfl, Int32.not_lt.mp c108, Or.inr ⟨c125, c137⟩⟩, hP, hD, hS, lv_sub hl [1, 2, 3, 4, 5, 6, 0] rfl⟩
    · skip
      refine lv_aload_n hx hb dX2_take_70 rfl (lv_at hl 0 rfl) ?_
      refine lv_iload_n hx hb dX2_take_71 rfl (lv_at hl 1 rfl) ?_
      refine lv_iload_n hx hb dX2_take_72 rfl (lv_at hl 2 rfl) ?_
      refine lv_iload_n hx hb dX2_take_73 rfl (lv_at hl 3 rfl) ?_
      have hPc := hP.sub (ws' := wM cI cB cZ a T se0 id0 pr0 en0 be0 th0 bs0 wh (nI 0) len md nw) [0, 1, 2, 3, 4, 5, 6, 7, 8, 9] rfl
      have hDc := hD.sub (ws' := wM cI cB cZ a T se0 id0 pr0 en0 be0 th0 bs0 wh (nI 0) len md nw) [0, 1, 2, 3, 4, 5, 6, 7, 8, 9] (by decide) rfl
      refine fh_ci (wr := []) (w2 := fun _ => wM cI cB cZ a T se0 id0 pr0 en0 be0 th0 bs0 wh (nI 0) len md nw) (va_runV (As := [.int p1, .int p2, .int p3]) (rest := []) ⟨hx, hb, hml, hown, hts⟩ (m_find l dC dI cI cB cZ a T se0 id0 pr0 en0 be0 th0 bs0 wh (nI 0) len md nw p1 p2 p3 H.size) (cwV 3 hts gX2_take_X2_find rfl rfl rfl (by decide +kernel) ⟨Nat.le_of_ble_eq_true rfl, Nat.le_of_ble_eq_true rfl⟩) (pV_PW hK hPc hDc (ci := 2) (q0 := 0) rfl rfl) rfl rfl hl.1 rfl (lv_room (Nat.le_of_ble_eq_true rfl)) dX2_take_74 ⟨Nat.zero_le _, Nat.zero_le _⟩) hP hD hS hA [0, 1, 2, 3, 4, 5, 6, 7, 8, 9] [] [0, 1, 2, 3, 4, 5, 6, 7, 8, 9] rfl rfl (by decide) (by decide) (by decide) (fun _ => rfl) (fun r9 _u H locs hw hK hP hD hS => ?_)
      have hwF := hw
      refine lv_istore (lv' := [(9, .int r9), (0, .ref (a 0)), (1, .int p1), (2, .int p2), (3, .int p3), (5, .int p5), (6, .int (nI q)), (7, .int (nI (o * 8))), (8, .int (nI (o * 8 + q)))]) hx hb dX2_take_77 hl (by decide) rfl (fun ls hl => ?_)
      refine lv_iload hx hb dX2_take_79 (lv_at hl 0 rfl) ?_
      refine lv_if_ge (tgt := 93) hx hb dX2_take_81 (by decide) (fun c81 => ?_) (fun c81 => ?_)
      · skip
        obtain ⟨k, hk, rfl, ht, hm⟩ := hwF.resolve_right (fun z => absurd (z.1 ▸ c81) (by decide))
        refine lv_iload hx hb dX2_take_93 (lv_at hl 0 rfl) ?_
        refine lv_if_ge (tgt := 101) hx hb dX2_take_95 (by decide) (fun c95 => ?_) (fun c95 => ?_)
        · skip
          skip
          exact J101 (k, se0, id0, pr0, en0, be0, th0, bs0) _ _ _ ⟨hk, Or.inl ⟨ht, hm, rfl⟩, hen0 k hk, hP, hD, hS, lv_sub hl [1, 5, 6, 7, 8, 0] rfl⟩
        · skip
          exact absurd (nI_pos' (by omega)) c95
      · skip
        obtain ⟨-, hno⟩ := hwF.resolve_left (fun ⟨k, h1, h2, _⟩ => c81 (h2 ▸ nI_pos' (by omega)))
        refine lv_aload_n hx hb dX2_take_84 rfl (lv_at hl 1 rfl) ?_
        refine lv_iload_n hx hb dX2_take_85 rfl (lv_at hl 2 rfl) ?_
        refine lv_iload_n hx hb dX2_take_86 rfl (lv_at hl 3 rfl) ?_
        refine lv_iload_n hx hb dX2_take_87 rfl (lv_at hl 4 rfl) ?_
        have hPc := hP.sub (ws' := wM cI cB cZ a T se0 id0 pr0 en0 be0 th0 bs0 wh (nI 0) len md nw) [0, 1, 2, 3, 4, 5, 6, 7, 8, 9] rfl
        have hDc := hD.sub (ws' := wM cI cB cZ a T se0 id0 pr0 en0 be0 th0 bs0 wh (nI 0) len md nw) [0, 1, 2, 3, 4, 5, 6, 7, 8, 9] (by decide) rfl
        refine fh_ci (wr := []) (w2 := fun u => wM cI cB cZ a T u.1 u.2.1 u.2.2.1 u.2.2.2.1 u.2.2.2.2.1 u.2.2.2.2.2.1 u.2.2.2.2.2.2 wh (nI 0) len md nw) (va_runV (As := [.int p1, .int p2, .int p3]) (rest := []) ⟨hx, hb, hml, hown, hts⟩ (m_begin l dC dI cI cB cZ a T se0 id0 pr0 en0 be0 th0 bs0 wh (nI 0) len md nw p1 p2 p3 H.size) (cwV 3 hts gX2_take_X2_begin rfl rfl rfl (by decide +kernel) ⟨Nat.le_of_ble_eq_true rfl, Nat.le_of_ble_eq_true rfl⟩) (pV_PW hK hPc hDc (ci := 2) (q0 := 0) rfl rfl) rfl rfl hl.1 rfl (lv_room (Nat.le_of_ble_eq_true rfl)) dX2_take_88 ⟨Nat.zero_le _, Nat.zero_le _⟩) hP hD hS hA [0, 1, 2, 3, 4, 5, 6, 7, 8, 9] [] [0, 1, 2, 3, 4, 5, 6, 7, 8, 9] rfl rfl (by decide) (by decide) (by decide) (fun _ => rfl) (fun r9 v H locs hw hK hP hD hS => ?_)
        have hwB := hw
        have hP : va_P (dC, dI) vwCl (wM cI cB cZ a T v.1 v.2.1 v.2.2.1 v.2.2.2.1 v.2.2.2.2.1 v.2.2.2.2.2.1 v.2.2.2.2.2.2 wh (nI 0) len md nw) H := hP
        have hD : va_D A (wM cI cB cZ a T v.1 v.2.1 v.2.2.1 v.2.2.2.1 v.2.2.2.2.1 v.2.2.2.2.2.1 v.2.2.2.2.2.2 wh (nI 0) len md nw) := hD
        refine lv_istore (lv' := [(9, .int r9), (0, .ref (a 0)), (1, .int p1), (2, .int p2), (3, .int p3), (5, .int p5), (6, .int (nI q)), (7, .int (nI (o * 8))), (8, .int (nI (o * 8 + q)))]) hx hb dX2_take_91 hl (by decide) rfl (fun ls hl => ?_)
        refine lv_iload hx hb dX2_take_93 (lv_at hl 0 rfl) ?_
        refine lv_if_ge (tgt := 101) hx hb dX2_take_95 (by decide) (fun c95 => ?_) (fun c95 => ?_)
        · skip
          obtain ⟨k, hk, rfl, ht0, hv⟩ := hwB.resolve_right (fun z => absurd (z.1 ▸ c95) (by decide))
          exact J101 (k, v.1, v.2.1, v.2.2.1, v.2.2.2.1, v.2.2.2.2.1, v.2.2.2.2.2.1, v.2.2.2.2.2.2) _ _ _ ⟨hk, Or.inr ⟨hno, ht0, hv⟩, by rw [hv]; show upd en0 k (-1) k ≤ nI 4096; rw [pk_us]; decide, hP, hD, hS, lv_sub hl [1, 5, 6, 7, 8, 0] rfl⟩
        · skip
          obtain ⟨-, hall, hv⟩ := hwB.resolve_left (fun ⟨k, h1, h2, _⟩ => c95 (h2 ▸ nI_pos' (by omega)))
          refine lv_bipush (v := (-2)) hx hb dX2_take_98 (by first | decide | rfl) ?_
          exact W.iret hx hb hr (fh_qi (0, v, wh, len, md) (Or.inr ⟨o, ho, hp4, Or.inr ⟨hsd, Or.inl ⟨hno, hall, rfl, by rw [hv]⟩⟩⟩) hP hK hD hS) hS.2.2 dX2_take_100
  · skip
    refine lv_iload hx hb dX2_take_0 (lv_at hl 4 rfl) ?_
    refine lv_if_lt (tgt := 13) hx hb dX2_take_2 (by decide) (fun c2 => ?_) (fun c2 => ?_)
    · skip
      refine lv_bipush (v := (-4)) hx hb dX2_take_13 (by first | decide | rfl) ?_
      exact W.iret hx hb hr (fh_qi (q, (se0, id0, pr0, en0, be0, th0, bs0), wh, len, md) (Or.inl ⟨rfl, Or.inl c2, rfl⟩) hP hK hD hS) hS.2.2 dX2_take_15
    · skip
      refine lv_iload hx hb dX2_take_5 (lv_at hl 4 rfl) ?_
      refine lv_sipush (v := nI 8191) hx hb dX2_take_7 (by first | decide | rfl) ?_
      refine lv_icmp_le (tgt := 16) hx hb dX2_take_10 (by decide) (fun c10 => ?_) (fun c10 => ?_)
      · skip
        obtain ⟨o, ho0, rfl⟩ := nI_of c2
        have ho : o ≤ 8191 := (nI_leI ho0 (by decide)).mp c10
        refine lv_aload_n hx hb dX2_take_16 rfl (lv_at hl 0 rfl) ?_
        refine va_get (D := (dC, dI)) (ci := 2) (v := .int (nI q)) (C := RX2) (T := TX2) (N := 13) hx hb hts (by decide +kernel) hown hK hP 0 rfl rfl 1 (by decide) (hts (.fieldLink RX2 43 "FragmentHouseModel" "trayed" "I") (by decide +kernel)) (fun _ h9 => h9) rfl dX2_take_17 ?_
        refine lv_istore (lv' := [(6, .int (nI q)), (0, .ref (a 0)), (1, .int p1), (2, .int p2), (3, .int p3), (4, .int (nI o)), (5, .int p5)]) hx hb dX2_take_20 hl (by decide) rfl (fun ls hl => ?_)
        refine lv_aload_n hx hb dX2_take_22 rfl (lv_at hl 1 rfl) ?_
        refine lv_iconst (v := nI 0) hx hb dX2_take_23 (by first | decide | rfl) ?_
        refine va_put (D := (dC, dI)) (ci := 2) (v := .int (nI 0)) (ty := .int) (C := RX2) (T := TX2) (N := 13) hx hb hts (by decide +kernel) tyX2 tyX2_ok nmX2 hown hK hP hD hS 0 rfl rfl 1 (by decide) (hts (.fieldLink RX2 43 "FragmentHouseModel" "trayed" "I") (by decide +kernel)) (fun _ h9 => h9) rfl (by decide +kernel) rfl rfl (Nat.le_of_ble_eq_true rfl) dX2_take_24 (fun H locs hP hD hS => ?_)
        have hP : va_P (dC, dI) vwCl (wM cI cB cZ a T se0 id0 pr0 en0 be0 th0 bs0 wh ((nI 0)) len md nw) H := hP
        have hD : va_D A (wM cI cB cZ a T se0 id0 pr0 en0 be0 th0 bs0 wh ((nI 0)) len md nw) := hD
        refine lv_bipush (v := nI 8) hx hb dX2_take_27 (by first | decide | rfl) ?_
        refine lv_iload hx hb dX2_take_29 (lv_at hl 5 rfl) ?_
        refine lv_imul hx hb dX2_take_31 ?_
        refine fh_top (y := nI (o * 8)) (by rw [pk_mul, Nat.mul_comm]) ?_
        refine lv_istore (lv' := [(7, .int (nI (o * 8))), (6, .int (nI q)), (0, .ref (a 0)), (1, .int p1), (2, .int p2), (3, .int p3), (4, .int (nI o)), (5, .int p5)]) hx hb dX2_take_32 hl (by decide) rfl (fun ls hl => ?_)
        refine lv_iload hx hb dX2_take_34 (lv_at hl 0 rfl) ?_
        refine lv_iload hx hb dX2_take_36 (lv_at hl 1 rfl) ?_
        refine lv_iadd hx hb dX2_take_38 ?_
        refine fh_top (y := nI (o * 8 + q)) (nI_add (o * 8) q) ?_
        refine lv_istore (lv' := [(8, .int (nI (o * 8 + q))), (7, .int (nI (o * 8))), (6, .int (nI q)), (0, .ref (a 0)), (1, .int p1), (2, .int p2), (3, .int p3), (4, .int (nI o)), (5, .int p5)]) hx hb dX2_take_39 hl (by decide) rfl (fun ls hl => ?_)
        refine lv_iload hx hb dX2_take_41 (lv_at hl 0 rfl) ?_
        refine lv_sipush (v := nI 4096) hx hb dX2_take_43 (by first | decide | rfl) ?_
        refine lv_icmp_gt (tgt := 67) hx hb dX2_take_46 (by decide) (fun c46 => ?_) (fun c46 => ?_)
        · skip
          refine lv_bipush (v := (-2)) hx hb dX2_take_67 (by first | decide | rfl) ?_
          exact W.iret hx hb hr (fh_qi (0, (se0, id0, pr0, en0, be0, th0, bs0), wh, len, md) (Or.inr ⟨o, ho, rfl, Or.inl ⟨fun z => absurd (nI_le z.1 (by decide)) (Int32.not_le.mpr c46), rfl, rfl⟩⟩) hP hK hD hS) hS.2.2 dX2_take_69
        · skip
          have h46 : o * 8 + q ≤ 4096 := (nI_leI (by omega) (by decide)).mp (Int32.not_lt.mp c46)
          refine lv_iload hx hb dX2_take_49 (lv_at hl 8 rfl) ?_
          refine lv_if_ne (tgt := 70) hx hb dX2_take_51 (by decide) (fun c51 => ?_) (fun c51 => ?_)
          · skip
            exact J70 (o) _ _ _ ⟨ho, rfl, ⟨h46, Or.inl c51⟩, hP, hD, hS, lv_sub hl [3, 4, 5, 6, 8, 2, 1, 0] rfl⟩
          · skip
            refine lv_iload hx hb dX2_take_54 (lv_at hl 2 rfl) ?_
            refine lv_if_eq (tgt := 67) hx hb dX2_take_56 (by decide) (fun c56 => ?_) (fun c56 => ?_)
            · skip
              refine lv_bipush (v := (-2)) hx hb dX2_take_67 (by first | decide | rfl) ?_
              exact W.iret hx hb hr (fh_qi (0, (se0, id0, pr0, en0, be0, th0, bs0), wh, len, md) (Or.inr ⟨o, ho, rfl, Or.inl ⟨fun z => z.2.elim (fun y => y c51) (fun y => nI_ne0 y.1 (by omega) c56), rfl, rfl⟩⟩) hP hK hD hS) hS.2.2 dX2_take_69
            · skip
              have hb0 : 0 < q := Nat.pos_of_ne_zero (fun z => c56 (by rw [z]; rfl))
              refine lv_iload hx hb dX2_take_59 (lv_at hl 2 rfl) ?_
              refine lv_bipush (v := nI 8) hx hb dX2_take_61 (by first | decide | rfl) ?_
              refine lv_irem hx hb dX2_take_63 (by decide) ?_
              refine fh_top (y := nI (q % 8)) (pk_rem (by omega) (by decide) (by decide)) ?_
              refine lv_if_eq (tgt := 70) hx hb dX2_take_64 (by decide) (fun c64 => ?_) (fun c64 => ?_)
              · skip
                have hb8 : q % 8 = 0 := by rcases Nat.eq_zero_or_pos (q % 8) with z | z; exact z; exact absurd c64 (nI_ne0 z (by omega))
                exact J70 (o) _ _ _ ⟨ho, rfl, ⟨h46, Or.inr ⟨hb0, hb8⟩⟩, hP, hD, hS, lv_sub hl [3, 4, 5, 6, 8, 2, 1, 0] rfl⟩
              · skip
                refine lv_bipush (v := (-2)) hx hb dX2_take_67 (by first | decide | rfl) ?_
                exact W.iret hx hb hr (fh_qi (0, (se0, id0, pr0, en0, be0, th0, bs0), wh, len, md) (Or.inr ⟨o, ho, rfl, Or.inl ⟨fun z => z.2.elim (fun y => y c51) (fun y => c64 (by rw [y.2]; rfl)), rfl, rfl⟩⟩) hP hK hD hS) hS.2.2 dX2_take_69
      · skip
        refine lv_bipush (v := (-4)) hx hb dX2_take_13 (by first | decide | rfl) ?_
        exact W.iret hx hb hr (fh_qi (q, (se0, id0, pr0, en0, be0, th0, bs0), wh, len, md) (Or.inl ⟨rfl, Or.inr c10, rfl⟩) hP hK hD hS) hS.2.2 dX2_take_15
