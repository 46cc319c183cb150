/-! the two sides, tied; each call keeps the tie, and answers alike -/
def SM (T : F1) (q : Nat) (wc nw : Int32) (ds : Nat → Dg) (wd : Dg) (U se id pr en be th bs wh : F1) (qm : Nat) (len md nm : Int32) : Prop :=
  qm = q ∧ nm = nw ∧ q ≤ 1480 ∧ (0 ≤ nw ∧ nw ≤ 2000000000) ∧ (∀ j, T j = U j &&& 255) ∧ wc = md ∧ (wd.1 1 = 0 ∧ wd.1 6 = len ∧ (len = -1 ∨ ∃ e, e ≤ 4096 ∧ len = nI e ∧ ∀ j, j < e → wd.2 j = wh j)) ∧ SL ds se id pr en be th bs nw
section ST
variable {T U se id pr en be th bs wh : F1} {q qm : Nat} {wc nw len md nm : Int32} {ds : Nat → Dg} {wd : Dg}
theorem SM_len (S : SM T q wc nw ds wd U se id pr en be th bs wh qm len md nm) : len ≤ nI 4096 := by
  obtain ⟨-, -, -, -, -, -, ⟨-, -, h⟩, -⟩ := S
  rcases h with h | ⟨e, he, h, -⟩
  · rw [h]
    decide
  · rw [h]
    exact nI_le he (by decide)
theorem SM_wd (S : SM T q wc nw ds wd U se id pr en be th bs wh qm len md nm) : wd.1 6 ≤ nI 4096 := by
  have h := SM_len S
  obtain ⟨-, -, -, -, -, -, ⟨-, h6, -⟩, -⟩ := S
  rw [h6]
  exact h
theorem SM_q (S : SM T q wc nw ds wd U se id pr en be th bs wh qm len md nm) : q ≤ 1480 := S.2.2.1
theorem SM_qm (S : SM T q wc nw ds wd U se id pr en be th bs wh qm len md nm) : qm ≤ 1480 := by
  rw [S.1]
  exact S.2.2.1
theorem SM_en (S : SM T q wc nw ds wd U se id pr en be th bs wh qm len md nm) : ∀ k, k < 4 → en k ≤ nI 4096 := S.2.2.2.2.2.2.2.2.2.2
theorem st_feed (S : SM T q wc nw ds wd U se id pr en be th bs wh qm len md nm) {a1 a2 a3 a4 a5 r1 r2 : Int32} {u1 u2 : (Nat → Int32) × Nat}
    (h1 : (1460 < q ∧ r1 = -1 ∧ u1 = (T, q)) ∨ (q ≤ 1460 ∧ r1 = nI (q + 20) ∧ u1 = (fdT bv T q a1 a2 a3 a4 a5, q + 20)))
    (h2 : (1460 < qm ∧ r2 = -1 ∧ u2 = (U, qm)) ∨ (qm ≤ 1460 ∧ r2 = nI (qm + 20) ∧ u2 = (fdT mb U qm a1 a2 a3 a4 a5, qm + 20))) :
    r1 = r2 ∧ SM u1.1 u1.2 wc nw ds wd u2.1 se id pr en be th bs wh u2.2 len md nm := by
  have hS := S
  obtain ⟨e1, e2, hq, hn, hT, hw, hl, hs⟩ := S
  subst e1
  rcases h1 with ⟨a, b, c⟩ | ⟨a, b, c⟩ <;> rcases h2 with ⟨a', b', c'⟩ | ⟨a', b', c'⟩
  · rw [b, b', c, c']
    exact ⟨rfl, hS⟩
  · omega
  · omega
  · rw [b, b', c, c']
    exact ⟨rfl, rfl, e2, by show qm + 20 ≤ 1480; omega, hn, fd_rel hT, hw, hl, hs⟩
theorem st_end (S : SM T q wc nw ds wd U se id pr en be th bs wh qm len md nm) {p1 r1 r2 : Int32} {u1 u2 : Nat}
    (h1 : (r1 = -1 ∧ (p1 < 0 ∨ ¬ p1 ≤ nI q) ∧ u1 = q) ∨ (∃ k, k ≤ q ∧ p1 = nI k ∧ r1 = nI k ∧ u1 = k)) (h2 : (r2 = -1 ∧ (p1 < 0 ∨ ¬ p1 ≤ nI qm) ∧ u2 = qm) ∨ (∃ k, k ≤ qm ∧ p1 = nI k ∧ r2 = nI k ∧ u2 = k)) :
    r1 = r2 ∧ SM T u1 wc nw ds wd U se id pr en be th bs wh u2 len md nm := by
  have hS := S
  obtain ⟨e1, e2, hq, hn, hT, hw, hl, hs⟩ := S
  subst e1
  have no : ∀ k, k ≤ qm → ¬ (nI k < 0 ∨ ¬ nI k ≤ nI qm) := fun k hk z => z.elim (nI_pos (by omega)) (fun y => y (nI_le hk (by omega)))
  rcases h1 with ⟨a, b, c⟩ | ⟨k, a, b, c, d⟩ <;> rcases h2 with ⟨a', b', c'⟩ | ⟨k', a', b', c', d'⟩
  · rw [a, a', c, c']
    exact ⟨rfl, hS⟩
  · rw [b'] at b
    exact absurd b (no k' a')
  · rw [b] at b'
    exact absurd b' (no k a)
  · have hk : k = k' := (nI_eq (by omega) (by omega)).mp (b.symm.trans b')
    subst hk
    rw [c, c', d, d']
    exact ⟨rfl, rfl, e2, by omega, hn, hT, hw, hl, hs⟩
theorem st_pass (S : SM T q wc nw ds wd U se id pr en be th bs wh qm len md nm) {p1 r1 r2 : Int32} {u1 : (Nat → Dg) × Int32} {u2 : (Nat → Int32) × Int32}
    (h1 : (r1 = -1 ∧ (p1 < nw ∨ ¬ p1 ≤ 2000000000) ∧ u1 = (ds, nw)) ∨ (¬ p1 < nw ∧ p1 ≤ 2000000000 ∧ r1 = nI (psC p1 ds 4) ∧ u1 = (psD p1 ds 4, p1)))
    (h2 : (r2 = -1 ∧ (p1 < nm ∨ ¬ p1 ≤ 2000000000) ∧ u2 = (th, nm)) ∨ (¬ p1 < nm ∧ p1 ≤ 2000000000 ∧ r2 = nI (psN p1 th be 4) ∧ u2 = (psT p1 th be 4, p1))) :
    r1 = r2 ∧ SM T q wc u1.2 u1.1 wd U se id pr en be u2.1 bs wh qm len md u2.2 := by
  have hS := S
  obtain ⟨e1, e2, hq, hn, hT, hw, hl, hs⟩ := S
  subst e2
  rcases h1 with ⟨a, b, c⟩ | ⟨a, b, c, d⟩ <;> rcases h2 with ⟨a', b', c'⟩ | ⟨a', b', c', d'⟩
  · rw [a, a', c, c']
    exact ⟨rfl, hS⟩
  · exact absurd b (fun z => z.elim a' (fun y => y b'))
  · exact absurd b' (fun z => z.elim a (fun y => y b))
  · obtain ⟨s1, s2⟩ := sl_pass hs a b
    rw [c, c', d, d', s2]
    exact ⟨rfl, e1, rfl, hq, ⟨Int32.le_trans hn.1 (Int32.not_lt.mp a), b⟩, hT, hw, hl, s1⟩
theorem st_at (S : SM T q wc nw ds wd U se id pr en be th bs wh qm len md nm) {p1 r1 r2 : Int32}
    (h1 : (r1 = -1 ∧ (p1 < 0 ∨ ¬ p1 < wd.1 6)) ∨ (∃ k, k < 4096 ∧ p1 = nI k ∧ nI k < wd.1 6 ∧ r1 = wd.2 k)) (h2 : (r2 = -1 ∧ (p1 < 0 ∨ ¬ p1 < len)) ∨ (∃ k, k < 4096 ∧ p1 = nI k ∧ nI k < len ∧ r2 = wh k)) : r1 = r2 := by
  obtain ⟨-, -, -, -, -, -, ⟨-, h6, hl⟩, -⟩ := S
  rw [h6] at h1
  have no : ∀ k, k < 4096 → nI k < len → ¬ (nI k < 0 ∨ ¬ nI k < len) := fun k hk h z => z.elim (nI_pos (by omega)) (fun y => y h)
  rcases h1 with ⟨a, b⟩ | ⟨k, a, b, c, d⟩ <;> rcases h2 with ⟨a', b'⟩ | ⟨k', a', b', c', d'⟩
  · rw [a, a']
  · rw [b'] at b
    exact absurd b (no k' a' c')
  · rw [b] at b'
    exact absurd b' (no k a c)
  · have hk : k = k' := (nI_eq (by omega) (by omega)).mp (b.symm.trans b')
    subst hk
    rw [d, d']
    rcases hl with hl | ⟨e, he, hl, hw⟩
    · rw [hl] at c
      exact absurd (Int32.le_of_lt c) (Int32.not_le.mpr (Int32.lt_of_lt_of_le (by decide) (nI_pos' (by omega))))
    · rw [hl] at c
      exact hw k ((nI_ltI (by omega) (by omega)).mp c)
theorem off_ok {o : Nat} (ho : o ≤ 8191) : ¬ (nI o < 0 ∨ ¬ nI o ≤ nI 8191) := fun z => z.elim (nI_pos (by omega)) (fun y => y (nI_le ho (by decide)))
theorem st_take (S : SM T q wc nw ds wd U se id pr en be th bs wh qm len md nm) {D C : Nat → Nat} {dw cw : Nat} {p1 p2 p3 p4 p5 r1 r2 : Int32} {u1 : Nat × Sj} {u2 : Sm}
    (h1 : TK D C dw cw wc nw ds wd T q p1 p2 p3 p4 p5 r1 u1) (h2 : MT se id pr en be th bs wh len md nm U qm p1 p2 p3 p4 p5 r2 u2) :
    r1 = r2 ∧ SM T u1.1 u1.2.2.2.2.2.1 nw u1.2.2.2.2.2.2.1 u1.2.2.2.2.2.2.2 U u2.2.1.1 u2.2.1.2.1 u2.2.1.2.2.1 u2.2.1.2.2.2.1 u2.2.1.2.2.2.2.1 u2.2.1.2.2.2.2.2.1 u2.2.1.2.2.2.2.2.2 u2.2.2.1 u2.1 u2.2.2.2.1 u2.2.2.2.2 nm := by
  have hS := S
  obtain ⟨e1, e2, hq, hn, hT, hw, hl, hs⟩ := S
  subst e1 e2
  rcases h1 with ⟨hr, hc, hu⟩ | ⟨o, ho, hp4, h1⟩
  · rcases h2 with ⟨hr2, -, hu2⟩ | ⟨o, ho, hp4, -⟩
    · subst hr hr2 hu hu2
      exact ⟨rfl, hS⟩
    · rw [hp4] at hc
      exact absurd hc (off_ok ho)
  · rcases h2 with ⟨-, hc, -⟩ | ⟨o', ho', hp4', h2⟩
    · rw [hp4] at hc
      exact absurd hc (off_ok ho)
    · have hoo : o = o' := (nI_eq (by omega) (by omega)).mp (hp4.symm.trans hp4')
      subst hoo
      rcases h1 with ⟨hns, hr, hu⟩ | ⟨hsd, r8, ds1, hF, h1⟩
      · rcases h2 with ⟨-, hr2, hu2⟩ | ⟨hsd, -⟩
        · subst hr hr2 hu hu2
          exact ⟨rfl, rfl, rfl, Nat.zero_le _, hn, hT, hw, hl, hs⟩
        · exact absurd hsd hns
      · rcases h2 with ⟨hns, -⟩ | ⟨-, h2⟩
        · exact absurd hsd hns
        · rcases h2 with ⟨hno, hall, hr2, hu2⟩ | ⟨k, hk, se1, id1, pr1, en1, be1, th1, bs1, hM, hJ⟩
          · obtain ⟨e8, ed⟩ := sl_full hs hF hno hall
            rcases h1 with ⟨-, hr, hu⟩ | ⟨i, hi, e9, -⟩
            · subst hr hr2 hu hu2 ed
              exact ⟨rfl, rfl, rfl, Nat.zero_le _, hn, hT, hw, hl, hs⟩
            · exact absurd (e9.symm.trans e8) (nI_m1 hi)
          · obtain ⟨i, hi, hr8, S1, h1i, heq⟩ := sl_pick hs hn.1 hF hk hM
            rcases h1 with ⟨e8, -⟩ | ⟨i', hi', e9, v, hN, hu⟩
            · exact absurd (hr8.symm.trans e8) (nI_m1 hi)
            · have hii : i' = i := (nI_eq (by omega) (by omega)).mp (e9.symm.trans hr8)
              subst hii
              subst hu
              have hcc := ctr_iff (l := p5) (S1.2.1 i' hi h1i) h1i heq hsd.1
              rcases hN with ⟨hc, hr, hv⟩ | ⟨hc, hN⟩
              · rcases hJ with ⟨-, hr2, hu2⟩ | ⟨hcm, -⟩
                · subst hr hr2 hv hu2
                  exact ⟨rfl, rfl, rfl, Nat.zero_le _, hn, hT, hw, hl, sl_drop S1 hi hk heq _ rfl⟩
                · exact absurd (hcc.mp hc) hcm
              · rcases hJ with ⟨hcm, -⟩ | ⟨-, en2, bs2, he2, hb2, hJ⟩
                · exact absurd (hcc.mpr hcm) hc
                · have he2 : en2 = en2f en1 k (o * 8 + qm) p5 := he2
                  subst he2 hb2
                  have S2 := sl_put S1 hi hk h1i heq hT hsd hc
                  have hI2 := IV_jD (S1.2.1 i' hi h1i) hT hsd hc
                  have hO2 := oC_jD (a := o * 8) (b := qm) (l := p5) h1i heq hT
                  have hd1 : (jD (ds1 i').1 (ds1 i').2 (o * 8) qm T p5).1 1 ≠ 0 := by
                    rw [jD_n (by decide) (by decide) (by decide)]
                    exact h1i
                  obtain ⟨-, -, -, -, -, e6, e7⟩ := oCM hd1 hO2
                  have hww := wh_iff hI2 e6 e7
                  rcases hN with ⟨hnw, hr, hv⟩ | ⟨hyw, hr, hv⟩
                  · rcases hJ with ⟨-, hr2, hu2⟩ | ⟨e, he, hee, hall, -⟩
                    · subst hr hr2 hv hu2
                      exact ⟨rfl, rfl, rfl, Nat.zero_le _, hn, hT, hw, hl, S2⟩
                    · exact absurd (hww.mp ⟨e, he, hee, hall⟩) hnw
                  · rcases hJ with ⟨hnm, -⟩ | ⟨e, he, hee, hall, wh2, hwh, hr2, hu2⟩
                    · obtain ⟨e, he, hee, hall⟩ := hww.mpr hyw
                      rcases hnm with hnm | ⟨e', he', hee', j, hj, hz⟩
                      · rw [hee] at hnm
                        exact absurd hnm (nI_pos (by omega))
                      · have : e = e' := (nI_eq (by omega) (by omega)).mp (hee.symm.trans hee')
                        subst this
                        exact absurd hz (hall j hj)
                    · subst hr hr2 hv hu2
                      have e6n : (jD (ds1 i').1 (ds1 i').2 (o * 8) qm T p5).1 6 = nI e := e6.symm.trans hee
                      refine ⟨e6n, rfl, rfl, Nat.zero_le _, hn, hT, by rw [hw], ⟨rfl, e6n, Or.inr ⟨e, he, rfl, fun j hj => ?_⟩⟩, ?_⟩
                      · show (jD (ds1 i').1 (ds1 i').2 (o * 8) qm T p5).2 j = wh2 j
                        rw [hwh j hj, e7 j (by omega), Int32.add_sub_cancel]
                      · have S3 := sl_drop S2 hi hk (by rw [vu_s]; exact hO2) wd hl.1
                        rw [bx_uu] at S3
                        exact S3
theorem SM_0 {d0 : Nat → Dg} {w0 : Dg} (h1 : ∀ i, i < 4 → (d0 i).1 1 = 0) (h2 : w0.1 1 = 0) (h3 : w0.1 6 = -1) : SM (fun _ => 0) 0 0 0 d0 w0 (fun _ => 0) (fun _ => 0) (fun _ => 0) (fun _ => 0) (fun _ => 0) (fun _ => 0) (fun _ => 0) (fun _ => 0) (fun _ => 0) 0 (-1) 0 0 := by
  refine ⟨rfl, rfl, Nat.zero_le _, ⟨by decide, by decide⟩, fun _ => (by decide : (0 : Int32) = 0 &&& 255), rfl, ⟨h2, h3, Or.inl rfl⟩, ?_, fun i hi z => absurd (h1 i hi) z, fun i j hi hj _ z => absurd (h1 i hi) z, fun k hk => (by decide : (0 : Int32) ≤ nI 4096)⟩
  rw [l4_eq (f := fun i => oC (d0 i)) (g := fun _ => none) (fun i hi => oC_out (h1 i hi)), l4_eq (f := oM (fun _ => 0) (fun _ => 0) (fun _ => 0) (fun _ => 0) (fun _ => 0) (fun _ => 0) (fun _ => 0)) (g := fun _ => none) (fun k _ => oM_out rfl)]
end ST
