/-! the reference's methods -/
section FK6
variable {p : Program} {l : Launch} {e : Env} {R : Room} {s : State} {m : MethodId} {args : Array Value} {below : List Frame} {meth : Method} {c : Code} {H : Heap} {locs : List Loc} {cells slots : Nat} {Q : State → Prop}
theorem fh_cut {σ : Type} {pc2 : Nat} {g : JFrame} (I : σ → Heap → List Loc → Array Slot → Prop) (rest : ∀ (x : σ) (H : Heap) (locs : List Loc) (ls : Array Slot), I x H locs ls → W p l e R s m args below meth c H locs cells slots Q (F0 m pc2 ls []))
    (main : (∀ (x : σ) (H : Heap) (locs : List Loc) (ls : Array Slot), I x H locs ls → W p l e R s m args below meth c H locs cells slots Q (F0 m pc2 ls [])) → W p l e R s m args below meth c H locs cells slots Q g) : W p l e R s m args below meth c H locs cells slots Q g := main rest
end FK6
def mb (v : Int32) (k : Nat) : Int32 := (v >>> ((24 - 8 * nI k) &&& 31)).toInt8.toInt32
theorem mb_n (v : Int32) (k : Nat) : vp_nar .byte (mb v k) = mb v k := pk_vb _
def mkM (th : Nat → Int32) : Nat → Nat
  | 0 => 0
  | k + 1 => mkM th k + (if th k = 0 then 0 else 1)
theorem mkM_s1 {th : Nat → Int32} {k : Nat} (h : ¬ th k = 0) : mkM th (k + 1) = mkM th k + 1 := by
  show mkM th k + _ = _
  rw [if_neg h]
theorem mkM_s2 {th : Nat → Int32} {k : Nat} (h : th k = 0) : mkM th (k + 1) = mkM th k := by
  show mkM th k + _ = _
  rw [if_pos h, Nat.add_zero]
def psT (t : Int32) (th be : Nat → Int32) (k : Nat) : Nat → Int32 := fun i => if i < k ∧ th i ≠ 0 ∧ 15000 ≤ t - be i then 0 else th i
def psN (t : Int32) (th be : Nat → Int32) : Nat → Nat
  | 0 => 0
  | k + 1 => psN t th be k + (if th k ≠ 0 ∧ 15000 ≤ t - be k then 1 else 0)
theorem psT_0 (t : Int32) (th be : Nat → Int32) : psT t th be 0 = th := by
  funext j
  unfold psT
  rw [if_neg (fun h => absurd h.1 (Nat.not_lt_zero _))]
theorem psT_at (t : Int32) (th be : Nat → Int32) (k : Nat) : psT t th be k k = th k := by
  unfold psT
  rw [if_neg (fun h => absurd h.1 (Nat.lt_irrefl _))]
theorem psT_s1 {t : Int32} {th be : Nat → Int32} {k : Nat} (h1 : ¬ th k = 0) (h2 : 15000 ≤ t - be k) : upd (psT t th be k) k 0 = psT t th be (k + 1) := by
  funext j
  unfold upd psT
  by_cases hj : j = k
  · subst hj
    rw [if_pos rfl, if_pos ⟨by omega, h1, h2⟩]
  · rw [if_neg hj]
    by_cases hc : j < k ∧ th j ≠ 0 ∧ 15000 ≤ t - be j
    · rw [if_pos hc, if_pos ⟨by omega, hc.2⟩]
    · rw [if_neg hc, if_neg (fun q => hc ⟨by omega, q.2⟩)]
theorem psT_s2 {t : Int32} {th be : Nat → Int32} {k : Nat} (h : ¬ (th k ≠ 0 ∧ 15000 ≤ t - be k)) : psT t th be k = psT t th be (k + 1) := by
  funext j
  unfold psT
  by_cases hc : j < k ∧ th j ≠ 0 ∧ 15000 ≤ t - be j
  · rw [if_pos hc, if_pos ⟨by omega, hc.2⟩]
  · rw [if_neg hc, if_neg (fun q => hc ⟨by
      have h1 : j ≠ k := fun z => h (z ▸ q.2)
      omega, q.2⟩)]
theorem psN_s1 {t : Int32} {th be : Nat → Int32} {k : Nat} (h1 : ¬ th k = 0) (h2 : 15000 ≤ t - be k) : psN t th be (k + 1) = psN t th be k + 1 := by
  show psN t th be k + _ = _
  rw [if_pos ⟨h1, h2⟩]
theorem psN_s2 {t : Int32} {th be : Nat → Int32} {k : Nat} (h : ¬ (th k ≠ 0 ∧ 15000 ≤ t - be k)) : psN t th be (k + 1) = psN t th be k := by
  show psN t th be k + _ = _
  rw [if_neg h, Nat.add_zero]
def MK (se id pr : Nat → Int32) (k : Nat) (a b c : Int32) : Prop := se k = a ∧ id k = b ∧ pr k = c
abbrev F1 : Type := Nat → Int32
abbrev S7 : Type := F1 × F1 × F1 × F1 × F1 × F1 × F1
/-- the reference's begin at slot k -/
def bgM (se id pr en be th bs : F1) (a b c t : Int32) (k : Nat) : S7 := (upd se k a, upd id k b, upd pr k c, upd en k (-1), upd be k t, upd th k 1, wrT bs (k * 4096) 4096 (fun _ => 0))
set_option maxHeartbeats 4000000 in
set_option maxRecDepth 100000 in
/-- word -/
theorem m_word (l : Launch) (dC : Nat → ClassId) (dI : Nat → Nat → Nat) (cI cB cZ : ClassId) (a : Nat → Nat) (T se id pr en be th bs wh : Nat → Int32) (len md nw : Int32) (v : Int32) (q : Nat) (sz : Nat) (hq : q + 4 ≤ 1480) : Met l yX2_word wsX2_word ({ frames := 0, cells := 0, slots := 0, locals := 0 }) (va_Pc [.ref (a 0), .int v] (PW (dC, dI) vwCl [(cI, .int), (cB, .byte), (cZ, .boolean)] (wM cI cB cZ a T se id pr en be th bs wh (nI q) len md nw) sz)) (va_Qv (S := Unit) (fun _ => True) (QW (dC, dI) vwCl (fun _ => [(cI, .int), (cB, .byte), (cZ, .boolean)]) (va_A (wM cI cB cZ a T se id pr en be th bs wh (nI q) len md nw) sz) (fun _ => wM cI cB cZ a (wrT T q 4 (mb v)) se id pr en be th bs wh (nI (q + 4)) len md nw)) (va_A (wM cI cB cZ a T se id pr en be th bs wh (nI q) len md nw) sz)) 0 0 (va_A (wM cI cB cZ a T se id pr en be th bs wh (nI q) len md nw) sz) := by
  refine Met.ofW (cc := cX2_word) (maxL := 3) (ret := none) (by decide) rfl ?_
  intro p e s m args below meth c s₁ B hml hv
  obtain ⟨rfl, hsz, hP, hK, hD0⟩ := hv
  have hx := B.exec
  have hb := B.bytes
  have hr := B.returns
  have hts := atoms_spec (ws := wsX2_word) B.pre
  have hown : s.vm.findClass RX2 = some m.cls := findClass_of_methodNamed B.named
  have hlocks := B.notSynchronized
  subst hsz
  have hD := hD0.self (sz := s.heap.size)
  generalize hAe : va_A (wM cI cB cZ a T se id pr en be th bs wh (nI q) len md nw) s.heap.size = A at hD ⊢
  have hA : ∀ q : Nat, s.heap.size ≤ q → A q := fun q h => by rw [← hAe]; exact Or.inr h
  have hS : va_S A s.heap s.heap [] := va_S.rf
  have hl := lv_entry ([.ref (a 0), .int v]) (n := 3) (Nat.le_of_ble_eq_true rfl)
  rw [lg_entry_eq]
  generalize (lg_sl ([.ref (a 0), .int v]) ++ List.replicate (3 - (lg_sl ([.ref (a 0), .int v])).length) Slot.unset).toArray = ls at hl ⊢
  have hl : lv_has ls 3 [(0, .ref (a 0)), (1, .int v)] := hl
  refine fh_start (fun H hH => ?_)
  have hP : va_P (dC, dI) vwCl (wM cI cB cZ a T se id pr en be th bs wh (nI q) len md nw) H := by rw [hH]; exact hP
  have hS : va_S A s.heap H [] := by rw [hH]; exact va_S.rf
  refine lv_iconst (v := nI 0) hx hb dX2_word_0 (by first | decide | rfl) ?_
  refine lv_istore_n (lv' := [(2, .int (nI 0)), (0, .ref (a 0)), (1, .int v)]) hx hb dX2_word_1 rfl hl (by decide) rfl (fun ls hl => ?_)
  have hP : va_P (dC, dI) vwCl (wM cI cB cZ a (wrT T q 0 (mb v)) se id pr en be th bs wh (nI (q + 0)) len md nw) H := by rw [wr_0]; exact hP
  have hD : va_D A (wM cI cB cZ a (wrT T q 0 (mb v)) se id pr en be th bs wh (nI (q + 0)) len md nw) := by rw [wr_0]; exact hD
  refine fh_loop (σ := Nat) (fun q9 H locs ls => (q9 ≤ 4) ∧ va_P (dC, dI) vwCl (wM cI cB cZ a (wrT T q q9 (mb v)) se id pr en be th bs wh (nI (q + q9)) len md nw) H ∧ va_D A (wM cI cB cZ a (wrT T q q9 (mb v)) se id pr en be th bs wh (nI (q + q9)) len md nw) ∧ va_S A s.heap H locs ∧ lv_has ls 3 [(0, .ref (a 0)), (1, .int v), (2, .int (nI q9))]) (fun q9 => 4 - q9) ?_ (0) ⟨Nat.zero_le _, hP, hD, hS, lv_sub hl [1, 2, 0] rfl⟩
  intro q9 H locs ls hI ih
  obtain ⟨k, rfl⟩ : ∃ z, z = q9 := ⟨_, rfl⟩
  obtain ⟨hk, hP, hD, hS, hl⟩ : (k ≤ 4) ∧ va_P (dC, dI) vwCl (wM cI cB cZ a (wrT T q k (mb v)) se id pr en be th bs wh (nI (q + k)) len md nw) H ∧ va_D A (wM cI cB cZ a (wrT T q k (mb v)) se id pr en be th bs wh (nI (q + k)) len md nw) ∧ va_S A s.heap H locs ∧ lv_has ls 3 [(0, .ref (a 0)), (1, .int v), (2, .int (nI k))] := hI
  refine lv_iload_n hx hb dX2_word_2 rfl (lv_at hl 2 rfl) ?_
  refine lv_iconst (v := nI 4) hx hb dX2_word_3 (by first | decide | rfl) ?_
  refine lv_icmp_ge (tgt := 42) hx hb dX2_word_4 (by decide) (fun c4 => ?_) (fun c4 => ?_)
  · skip
    obtain rfl : k = 4 := Nat.le_antisymm hk ((nI_leI (by omega) (by omega)).mp c4)
    exact W.vret hx hb hr (fh_qv () trivial hP hK hD hS) hS.2.2 dX2_word_42
  · skip
    have hlt : k < 4 := Nat.lt_of_not_le (fun h => c4 (nI_le h (by omega)))
    refine lv_aload_n hx hb dX2_word_7 rfl (lv_at hl 0 rfl) ?_
    refine va_get (D := (dC, dI)) (ci := 2) (v := .ref (a 1)) (C := RX2) (T := TX2) (N := 13) hx hb hts (by decide +kernel) hown hK hP 0 rfl rfl 0 (by decide) (hts (.fieldLink RX2 9 "FragmentHouseModel" "tray" "[B") (by decide +kernel)) (fun _ h9 => h9) rfl dX2_word_8 ?_
    refine lv_aload_n hx hb dX2_word_11 rfl (lv_at hl 0 rfl) ?_
    refine va_get (D := (dC, dI)) (ci := 2) (v := .int (nI (q + k))) (C := RX2) (T := TX2) (N := 13) hx hb hts (by decide +kernel) hown hK hP 0 rfl rfl 1 (by decide) (hts (.fieldLink RX2 43 "FragmentHouseModel" "trayed" "I") (by decide +kernel)) (fun _ h9 => h9) rfl dX2_word_12 ?_
    refine lv_iload_n hx hb dX2_word_15 rfl (lv_at hl 1 rfl) ?_
    refine lv_bipush (v := 24) hx hb dX2_word_16 (by first | decide | rfl) ?_
    refine lv_bipush (v := 8) hx hb dX2_word_18 (by first | decide | rfl) ?_
    refine lv_iload_n hx hb dX2_word_20 rfl (lv_at hl 2 rfl) ?_
    refine lv_imul hx hb dX2_word_21 ?_
    refine lv_isub hx hb dX2_word_22 ?_
    refine lv_ishr hx hb dX2_word_23 ?_
    refine lv_i2b hx hb dX2_word_24 rfl ?_
    refine fh_top (y := mb v k) rfl ?_
    refine fh_bast (k := (q + k)) hx hb hK hP hD hS 1 1 rfl rfl (by omega) (by first | decide | omega) dX2_word_25 (fun H locs hP hD hS => ?_)
    have hP : va_P (dC, dI) vwCl (wM cI cB cZ a (upd ((wrT T q k (mb v))) ((q + k)) ((vp_nar .byte ((mb v k))))) se id pr en be th bs wh (nI (q + k)) len md nw) H := hP
    have hD : va_D A (wM cI cB cZ a (upd ((wrT T q k (mb v))) ((q + k)) ((vp_nar .byte ((mb v k))))) se id pr en be th bs wh (nI (q + k)) len md nw) := hD
    refine lv_aload_n hx hb dX2_word_26 rfl (lv_at hl 0 rfl) ?_
    refine lv_dup hx hb dX2_word_27 rfl ?_
    refine va_get (D := (dC, dI)) (ci := 2) (v := .int (nI (q + k))) (C := RX2) (T := TX2) (N := 13) hx hb hts (by decide +kernel) hown hK hP 0 rfl rfl 1 (by decide) (hts (.fieldLink RX2 43 "FragmentHouseModel" "trayed" "I") (by decide +kernel)) (fun _ h9 => h9) rfl dX2_word_28 ?_
    refine lv_iconst (v := 1) hx hb dX2_word_31 (by first | decide | rfl) ?_
    refine lv_iadd hx hb dX2_word_32 ?_
    refine fh_top (y := nI (q + (k + 1))) (nI_1 (q + k)) ?_
    refine va_put (D := (dC, dI)) (ci := 2) (v := .int (nI (q + (k + 1)))) (ty := .int) (C := RX2) (T := TX2) (N := 13) hx hb hts (by decide +kernel) tyX2 tyX2_ok nmX2 hown hK hP hD hS 0 rfl rfl 1 (by decide) (hts (.fieldLink RX2 43 "FragmentHouseModel" "trayed" "I") (by decide +kernel)) (fun _ h9 => h9) rfl (by decide +kernel) rfl rfl (Nat.le_of_ble_eq_true rfl) dX2_word_33 (fun H locs hP hD hS => ?_)
    have hP : va_P (dC, dI) vwCl (wM cI cB cZ a (upd ((wrT T q k (mb v))) ((q + k)) ((vp_nar .byte ((mb v k))))) se id pr en be th bs wh ((nI (q + (k + 1)))) len md nw) H := hP
    have hD : va_D A (wM cI cB cZ a (upd ((wrT T q k (mb v))) ((q + k)) ((vp_nar .byte ((mb v k))))) se id pr en be th bs wh ((nI (q + (k + 1)))) len md nw) := hD
    refine lv_iinc (v := (nI (k + 1))) (lv' := [(2, .int (nI (k + 1))), (0, .ref (a 0)), (1, .int v)]) hx hb dX2_word_36 hl (k := 2) rfl (nI_1 k) (by decide) rfl (fun ls hl => ?_)
    refine lv_goto (tgt := 2) hx hb dX2_word_39 (by decide) ?_
    rw [mb_n] at hP hD
    have hP : va_P (dC, dI) vwCl (wM cI cB cZ a (wrT T q (k + 1) (mb v)) se id pr en be th bs wh (nI (q + (k + 1))) len md nw) H := by rw [← wr_s]; exact hP
    have hD : va_D A (wM cI cB cZ a (wrT T q (k + 1) (mb v)) se id pr en be th bs wh (nI (q + (k + 1))) len md nw) := by rw [← wr_s]; exact hD
    exact ih (k + 1) _ _ _ ⟨hlt, hP, hD, hS, lv_sub hl [1, 2, 0] rfl⟩ (by show 4 - (k + 1) < 4 - k; omega)
set_option maxHeartbeats 4000000 in
set_option maxRecDepth 100000 in
/-- feed -/
theorem m_feed (l : Launch) (dC : Nat → ClassId) (dI : Nat → Nat → Nat) (cI cB cZ : ClassId) (a : Nat → Nat) (T se id pr en be th bs wh : Nat → Int32) (len md nw : Int32) (a1 a2 a3 a4 a5 : Int32) (q : Nat) (sz : Nat) (hq : q ≤ 1480) : Met l yX2_feed wsX2_feed ({ frames := 1, cells := 0, slots := 0, locals := 23 }) (va_Pc [.ref (a 0), .int a1, .int a2, .int a3, .int a4, .int a5] (PW (dC, dI) vwCl [(cI, .int), (cB, .byte), (cZ, .boolean)] (wM cI cB cZ a T se id pr en be th bs wh (nI q) len md nw) sz)) (va_Qi (S := (Nat → Int32) × Nat) (fun r u => (1460 < q ∧ r = -1 ∧ u = (T, q)) ∨ (q ≤ 1460 ∧ r = nI (q + 20) ∧ u = (fdT mb T q a1 a2 a3 a4 a5, q + 20))) (QW (dC, dI) vwCl (fun _ => [(cI, .int), (cB, .byte), (cZ, .boolean)]) (va_A (wM cI cB cZ a T se id pr en be th bs wh (nI q) len md nw) sz) (fun u => wM cI cB cZ a u.1 se id pr en be th bs wh (nI u.2) len md nw)) (va_A (wM cI cB cZ a T se id pr en be th bs wh (nI q) len md nw) sz)) 0 0 (va_A (wM cI cB cZ a T se id pr en be th bs wh (nI q) len md nw) sz) := by
  refine Met.ofW (cc := cX2_feed) (maxL := 6) (ret := (some .int)) (by decide) rfl ?_
  intro p e s m args below meth c s₁ B hml hv
  obtain ⟨rfl, hsz, hP, hK, hD0⟩ := hv
  have hx := B.exec
  have hb := B.bytes
  have hr := B.returns
  have hts := atoms_spec (ws := wsX2_feed) B.pre
  have hown : s.vm.findClass RX2 = some m.cls := findClass_of_methodNamed B.named
  have hlocks := B.notSynchronized
  subst hsz
  have hD := hD0.self (sz := s.heap.size)
  generalize hAe : va_A (wM cI cB cZ a T se id pr en be th bs wh (nI q) len md nw) s.heap.size = A at hD ⊢
  have hA : ∀ q : Nat, s.heap.size ≤ q → A q := fun q h => by rw [← hAe]; exact Or.inr h
  have hS : va_S A s.heap s.heap [] := va_S.rf
  have hl := lv_entry ([.ref (a 0), .int a1, .int a2, .int a3, .int a4, .int a5]) (n := 6) (Nat.le_of_ble_eq_true rfl)
  rw [lg_entry_eq]
  generalize (lg_sl ([.ref (a 0), .int a1, .int a2, .int a3, .int a4, .int a5]) ++ List.replicate (6 - (lg_sl ([.ref (a 0), .int a1, .int a2, .int a3, .int a4, .int a5])).length) Slot.unset).toArray = ls at hl ⊢
  have hl : lv_has ls 6 [(0, .ref (a 0)), (1, .int a1), (2, .int a2), (3, .int a3), (4, .int a4), (5, .int a5)] := hl
  refine fh_start (fun H hH => ?_)
  have hP : va_P (dC, dI) vwCl (wM cI cB cZ a T se id pr en be th bs wh (nI q) len md nw) H := by rw [hH]; exact hP
  have hS : va_S A s.heap H [] := by rw [hH]; exact va_S.rf
  refine lv_aload_n hx hb dX2_feed_0 rfl (lv_at hl 0 rfl) ?_
  refine va_get (D := (dC, dI)) (ci := 2) (v := .int (nI q)) (C := RX2) (T := TX2) (N := 13) hx hb hts (by decide +kernel) hown hK hP 0 rfl rfl 1 (by decide) (hts (.fieldLink RX2 43 "FragmentHouseModel" "trayed" "I") (by decide +kernel)) (fun _ h9 => h9) rfl dX2_feed_1 ?_
  refine lv_bipush (v := nI 20) hx hb dX2_feed_4 (by first | decide | rfl) ?_
  refine lv_iadd hx hb dX2_feed_6 ?_
  refine fh_top (y := nI (q + 20)) (nI_add q 20) ?_
  refine lv_sipush (v := nI 1480) hx hb dX2_feed_7 (by first | decide | rfl) ?_
  refine lv_icmp_le (tgt := 15) hx hb dX2_feed_10 (by decide) (fun c10 => ?_) (fun c10 => ?_)
  · skip
    have hq2 : q ≤ 1460 := by have := (nI_leI (by omega) (by decide)).mp c10; omega
    refine lv_aload_n hx hb dX2_feed_15 rfl (lv_at hl 0 rfl) ?_
    refine lv_iload_n hx hb dX2_feed_16 rfl (lv_at hl 1 rfl) ?_
    have hPc := hP.sub (ws' := wM cI cB cZ a T se id pr en be th bs wh (nI q) len md nw) [0, 1, 2, 3, 4, 5, 6, 7, 8, 9] rfl
    have hDc := hD.sub (ws' := wM cI cB cZ a T se id pr en be th bs wh (nI q) len md nw) [0, 1, 2, 3, 4, 5, 6, 7, 8, 9] (by decide) rfl
    refine fh_cv (wr := []) (w2 := fun _ => wM cI cB cZ a (wrT T q 4 (mb a1)) se id pr en be th bs wh (nI (q + 4)) len md nw) (va_runV (As := [.int a1]) (rest := []) ⟨hx, hb, hml, hown, hts⟩ (m_word l dC dI cI cB cZ a T se id pr en be th bs wh len md nw a1 q H.size (by omega)) (cwV 1 hts gX2_feed_X2_word rfl rfl rfl (by decide +kernel) ⟨Nat.le_of_ble_eq_true rfl, Nat.le_of_ble_eq_true rfl⟩) (pV_PW hK hPc hDc (ci := 2) (q0 := 0) rfl rfl) rfl rfl hl.1 rfl (lv_room (Nat.le_of_ble_eq_true rfl)) dX2_feed_17 ⟨Nat.zero_le _, Nat.zero_le _⟩) hP hD hS hA [0, 1, 2, 3, 4, 5, 6, 7, 8, 9] [] [0, 1, 2, 3, 4, 5, 6, 7, 8, 9] rfl rfl (by decide) (by decide) (by decide) (fun _ => rfl) (fun _u H locs hw hK hP hD hS => ?_)
    have hP : va_P (dC, dI) vwCl (wM cI cB cZ a (wrT T q 4 (mb a1)) se id pr en be th bs wh (nI (q + 4)) len md nw) H := hP
    have hD : va_D A (wM cI cB cZ a (wrT T q 4 (mb a1)) se id pr en be th bs wh (nI (q + 4)) len md nw) := hD
    refine lv_aload_n hx hb dX2_feed_20 rfl (lv_at hl 0 rfl) ?_
    refine lv_iload_n hx hb dX2_feed_21 rfl (lv_at hl 2 rfl) ?_
    have hPc := hP.sub (ws' := wM cI cB cZ a (wrT T q 4 (mb a1)) se id pr en be th bs wh (nI (q + 4)) len md nw) [0, 1, 2, 3, 4, 5, 6, 7, 8, 9] rfl
    have hDc := hD.sub (ws' := wM cI cB cZ a (wrT T q 4 (mb a1)) se id pr en be th bs wh (nI (q + 4)) len md nw) [0, 1, 2, 3, 4, 5, 6, 7, 8, 9] (by decide) rfl
    refine fh_cv (wr := []) (w2 := fun _ => wM cI cB cZ a (wrT (wrT T q 4 (mb a1)) (q + 4) 4 (mb a2)) se id pr en be th bs wh (nI ((q + 4) + 4)) len md nw) (va_runV (As := [.int a2]) (rest := []) ⟨hx, hb, hml, hown, hts⟩ (m_word l dC dI cI cB cZ a (wrT T q 4 (mb a1)) se id pr en be th bs wh len md nw a2 (q + 4) H.size (by omega)) (cwV 1 hts gX2_feed_X2_word rfl rfl rfl (by decide +kernel) ⟨Nat.le_of_ble_eq_true rfl, Nat.le_of_ble_eq_true rfl⟩) (pV_PW hK hPc hDc (ci := 2) (q0 := 0) rfl rfl) rfl rfl hl.1 rfl (lv_room (Nat.le_of_ble_eq_true rfl)) dX2_feed_22 ⟨Nat.zero_le _, Nat.zero_le _⟩) hP hD hS hA [0, 1, 2, 3, 4, 5, 6, 7, 8, 9] [] [0, 1, 2, 3, 4, 5, 6, 7, 8, 9] rfl rfl (by decide) (by decide) (by decide) (fun _ => rfl) (fun _u H locs hw hK hP hD hS => ?_)
    have hP : va_P (dC, dI) vwCl (wM cI cB cZ a (wrT (wrT T q 4 (mb a1)) (q + 4) 4 (mb a2)) se id pr en be th bs wh (nI (q + 8)) len md nw) H := hP
    have hD : va_D A (wM cI cB cZ a (wrT (wrT T q 4 (mb a1)) (q + 4) 4 (mb a2)) se id pr en be th bs wh (nI (q + 8)) len md nw) := hD
    refine lv_aload_n hx hb dX2_feed_25 rfl (lv_at hl 0 rfl) ?_
    refine lv_iload_n hx hb dX2_feed_26 rfl (lv_at hl 3 rfl) ?_
    have hPc := hP.sub (ws' := wM cI cB cZ a (wrT (wrT T q 4 (mb a1)) (q + 4) 4 (mb a2)) se id pr en be th bs wh (nI (q + 8)) len md nw) [0, 1, 2, 3, 4, 5, 6, 7, 8, 9] rfl
    have hDc := hD.sub (ws' := wM cI cB cZ a (wrT (wrT T q 4 (mb a1)) (q + 4) 4 (mb a2)) se id pr en be th bs wh (nI (q + 8)) len md nw) [0, 1, 2, 3, 4, 5, 6, 7, 8, 9] (by decide) rfl
    refine fh_cv (wr := []) (w2 := fun _ => wM cI cB cZ a (wrT (wrT (wrT T q 4 (mb a1)) (q + 4) 4 (mb a2)) (q + 8) 4 (mb a3)) se id pr en be th bs wh (nI ((q + 8) + 4)) len md nw) (va_runV (As := [.int a3]) (rest := []) ⟨hx, hb, hml, hown, hts⟩ (m_word l dC dI cI cB cZ a (wrT (wrT T q 4 (mb a1)) (q + 4) 4 (mb a2)) se id pr en be th bs wh len md nw a3 (q + 8) H.size (by omega)) (cwV 1 hts gX2_feed_X2_word rfl rfl rfl (by decide +kernel) ⟨Nat.le_of_ble_eq_true rfl, Nat.le_of_ble_eq_true rfl⟩) (pV_PW hK hPc hDc (ci := 2) (q0 := 0) rfl rfl) rfl rfl hl.1 rfl (lv_room (Nat.le_of_ble_eq_true rfl)) dX2_feed_27 ⟨Nat.zero_le _, Nat.zero_le _⟩) hP hD hS hA [0, 1, 2, 3, 4, 5, 6, 7, 8, 9] [] [0, 1, 2, 3, 4, 5, 6, 7, 8, 9] rfl rfl (by decide) (by decide) (by decide) (fun _ => rfl) (fun _u H locs hw hK hP hD hS => ?_)
    have hP : va_P (dC, dI) vwCl (wM cI cB cZ a (wrT (wrT (wrT T q 4 (mb a1)) (q + 4) 4 (mb a2)) (q + 8) 4 (mb a3)) se id pr en be th bs wh (nI (q + 12)) len md nw) H := hP
    have hD : va_D A (wM cI cB cZ a (wrT (wrT (wrT T q 4 (mb a1)) (q + 4) 4 (mb a2)) (q + 8) 4 (mb a3)) se id pr en be th bs wh (nI (q + 12)) len md nw) := hD
    refine lv_aload_n hx hb dX2_feed_30 rfl (lv_at hl 0 rfl) ?_
    refine lv_iload hx hb dX2_feed_31 (lv_at hl 4 rfl) ?_
    have hPc := hP.sub (ws' := wM cI cB cZ a (wrT (wrT (wrT T q 4 (mb a1)) (q + 4) 4 (mb a2)) (q + 8) 4 (mb a3)) se id pr en be th bs wh (nI (q + 12)) len md nw) [0, 1, 2, 3, 4, 5, 6, 7, 8, 9] rfl
    have hDc := hD.sub (ws' := wM cI cB cZ a (wrT (wrT (wrT T q 4 (mb a1)) (q + 4) 4 (mb a2)) (q + 8) 4 (mb a3)) se id pr en be th bs wh (nI (q + 12)) len md nw) [0, 1, 2, 3, 4, 5, 6, 7, 8, 9] (by decide) rfl
    refine fh_cv (wr := []) (w2 := fun _ => wM cI cB cZ a (wrT (wrT (wrT (wrT T q 4 (mb a1)) (q + 4) 4 (mb a2)) (q + 8) 4 (mb a3)) (q + 12) 4 (mb a4)) se id pr en be th bs wh (nI ((q + 12) + 4)) len md nw) (va_runV (As := [.int a4]) (rest := []) ⟨hx, hb, hml, hown, hts⟩ (m_word l dC dI cI cB cZ a (wrT (wrT (wrT T q 4 (mb a1)) (q + 4) 4 (mb a2)) (q + 8) 4 (mb a3)) se id pr en be th bs wh len md nw a4 (q + 12) H.size (by omega)) (cwV 1 hts gX2_feed_X2_word rfl rfl rfl (by decide +kernel) ⟨Nat.le_of_ble_eq_true rfl, Nat.le_of_ble_eq_true rfl⟩) (pV_PW hK hPc hDc (ci := 2) (q0 := 0) rfl rfl) rfl rfl hl.1 rfl (lv_room (Nat.le_of_ble_eq_true rfl)) dX2_feed_33 ⟨Nat.zero_le _, Nat.zero_le _⟩) hP hD hS hA [0, 1, 2, 3, 4, 5, 6, 7, 8, 9] [] [0, 1, 2, 3, 4, 5, 6, 7, 8, 9] rfl rfl (by decide) (by decide) (by decide) (fun _ => rfl) (fun _u H locs hw hK hP hD hS => ?_)
    have hP : va_P (dC, dI) vwCl (wM cI cB cZ a (wrT (wrT (wrT (wrT T q 4 (mb a1)) (q + 4) 4 (mb a2)) (q + 8) 4 (mb a3)) (q + 12) 4 (mb a4)) se id pr en be th bs wh (nI (q + 16)) len md nw) H := hP
    have hD : va_D A (wM cI cB cZ a (wrT (wrT (wrT (wrT T q 4 (mb a1)) (q + 4) 4 (mb a2)) (q + 8) 4 (mb a3)) (q + 12) 4 (mb a4)) se id pr en be th bs wh (nI (q + 16)) len md nw) := hD
    refine lv_aload_n hx hb dX2_feed_36 rfl (lv_at hl 0 rfl) ?_
    refine lv_iload hx hb dX2_feed_37 (lv_at hl 5 rfl) ?_
    have hPc := hP.sub (ws' := wM cI cB cZ a (wrT (wrT (wrT (wrT T q 4 (mb a1)) (q + 4) 4 (mb a2)) (q + 8) 4 (mb a3)) (q + 12) 4 (mb a4)) se id pr en be th bs wh (nI (q + 16)) len md nw) [0, 1, 2, 3, 4, 5, 6, 7, 8, 9] rfl
    have hDc := hD.sub (ws' := wM cI cB cZ a (wrT (wrT (wrT (wrT T q 4 (mb a1)) (q + 4) 4 (mb a2)) (q + 8) 4 (mb a3)) (q + 12) 4 (mb a4)) se id pr en be th bs wh (nI (q + 16)) len md nw) [0, 1, 2, 3, 4, 5, 6, 7, 8, 9] (by decide) rfl
    refine fh_cv (wr := []) (w2 := fun _ => wM cI cB cZ a (wrT (wrT (wrT (wrT (wrT T q 4 (mb a1)) (q + 4) 4 (mb a2)) (q + 8) 4 (mb a3)) (q + 12) 4 (mb a4)) (q + 16) 4 (mb a5)) se id pr en be th bs wh (nI ((q + 16) + 4)) len md nw) (va_runV (As := [.int a5]) (rest := []) ⟨hx, hb, hml, hown, hts⟩ (m_word l dC dI cI cB cZ a (wrT (wrT (wrT (wrT T q 4 (mb a1)) (q + 4) 4 (mb a2)) (q + 8) 4 (mb a3)) (q + 12) 4 (mb a4)) se id pr en be th bs wh len md nw a5 (q + 16) H.size (by omega)) (cwV 1 hts gX2_feed_X2_word rfl rfl rfl (by decide +kernel) ⟨Nat.le_of_ble_eq_true rfl, Nat.le_of_ble_eq_true rfl⟩) (pV_PW hK hPc hDc (ci := 2) (q0 := 0) rfl rfl) rfl rfl hl.1 rfl (lv_room (Nat.le_of_ble_eq_true rfl)) dX2_feed_39 ⟨Nat.zero_le _, Nat.zero_le _⟩) hP hD hS hA [0, 1, 2, 3, 4, 5, 6, 7, 8, 9] [] [0, 1, 2, 3, 4, 5, 6, 7, 8, 9] rfl rfl (by decide) (by decide) (by decide) (fun _ => rfl) (fun _u H locs hw hK hP hD hS => ?_)
    have hP : va_P (dC, dI) vwCl (wM cI cB cZ a (wrT (wrT (wrT (wrT (wrT T q 4 (mb a1)) (q + 4) 4 (mb a2)) (q + 8) 4 (mb a3)) (q + 12) 4 (mb a4)) (q + 16) 4 (mb a5)) se id pr en be th bs wh (nI (q + 20)) len md nw) H := hP
    have hD : va_D A (wM cI cB cZ a (wrT (wrT (wrT (wrT (wrT T q 4 (mb a1)) (q + 4) 4 (mb a2)) (q + 8) 4 (mb a3)) (q + 12) 4 (mb a4)) (q + 16) 4 (mb a5)) se id pr en be th bs wh (nI (q + 20)) len md nw) := hD
    refine lv_aload_n hx hb dX2_feed_42 rfl (lv_at hl 0 rfl) ?_
    refine va_get (D := (dC, dI)) (ci := 2) (v := .int (nI (q + 20))) (C := RX2) (T := TX2) (N := 13) hx hb hts (by decide +kernel) hown hK hP 0 rfl rfl 1 (by decide) (hts (.fieldLink RX2 43 "FragmentHouseModel" "trayed" "I") (by decide +kernel)) (fun _ h9 => h9) rfl dX2_feed_43 ?_
    exact W.iret hx hb hr (fh_qi (fdT mb T q a1 a2 a3 a4 a5, q + 20) (Or.inr ⟨hq2, rfl, rfl⟩) hP hK hD hS) hS.2.2 dX2_feed_46
  · skip
    refine lv_iconst (v := (-1)) hx hb dX2_feed_13 (by first | decide | rfl) ?_
    exact W.iret hx hb hr (fh_qi (T, q) (Or.inl ⟨by rcases Nat.lt_or_ge 1460 q with z | z; exact z; exact absurd (nI_le (show q + 20 ≤ 1480 by omega) (by decide)) c10, rfl, rfl⟩) hP hK hD hS) hS.2.2 dX2_feed_14
set_option maxHeartbeats 4000000 in
set_option maxRecDepth 100000 in
/-- end -/
theorem m_end (l : Launch) (dC : Nat → ClassId) (dI : Nat → Nat → Nat) (cI cB cZ : ClassId) (a : Nat → Nat) (T se id pr en be th bs wh : Nat → Int32) (len md nw : Int32) (p1 : Int32) (q : Nat) (sz : Nat) (hq : q ≤ 1480) : Met l yX2_end wsX2_end ({ frames := 0, cells := 0, slots := 0, locals := 0 }) (va_Pc [.ref (a 0), .int p1] (PW (dC, dI) vwCl [(cI, .int), (cB, .byte), (cZ, .boolean)] (wM cI cB cZ a T se id pr en be th bs wh (nI q) len md nw) sz)) (va_Qi (S := Nat) (fun r u => (r = -1 ∧ (p1 < 0 ∨ ¬ p1 ≤ nI q) ∧ u = q) ∨ (∃ k, k ≤ q ∧ p1 = nI k ∧ r = nI k ∧ u = k)) (QW (dC, dI) vwCl (fun _ => [(cI, .int), (cB, .byte), (cZ, .boolean)]) (va_A (wM cI cB cZ a T se id pr en be th bs wh (nI q) len md nw) sz) (fun u => wM cI cB cZ a T se id pr en be th bs wh (nI u) len md nw)) (va_A (wM cI cB cZ a T se id pr en be th bs wh (nI q) len md nw) sz)) 0 0 (va_A (wM cI cB cZ a T se id pr en be th bs wh (nI q) len md nw) sz) := by
  refine Met.ofW (cc := cX2_end) (maxL := 2) (ret := (some .int)) (by decide) rfl ?_
  intro p e s m args below meth c s₁ B hml hv
  obtain ⟨rfl, hsz, hP, hK, hD0⟩ := hv
  have hx := B.exec
  have hb := B.bytes
  have hr := B.returns
  have hts := atoms_spec (ws := wsX2_end) B.pre
  have hown : s.vm.findClass RX2 = some m.cls := findClass_of_methodNamed B.named
  have hlocks := B.notSynchronized
  subst hsz
  have hD := hD0.self (sz := s.heap.size)
  generalize hAe : va_A (wM cI cB cZ a T se id pr en be th bs wh (nI q) len md nw) s.heap.size = A at hD ⊢
  have hA : ∀ q : Nat, s.heap.size ≤ q → A q := fun q h => by rw [← hAe]; exact Or.inr h
  have hS : va_S A s.heap s.heap [] := va_S.rf
  have hl := lv_entry ([.ref (a 0), .int p1]) (n := 2) (Nat.le_of_ble_eq_true rfl)
  rw [lg_entry_eq]
  generalize (lg_sl ([.ref (a 0), .int p1]) ++ List.replicate (2 - (lg_sl ([.ref (a 0), .int p1])).length) Slot.unset).toArray = ls at hl ⊢
  have hl : lv_has ls 2 [(0, .ref (a 0)), (1, .int p1)] := hl
  refine fh_start (fun H hH => ?_)
  have hP : va_P (dC, dI) vwCl (wM cI cB cZ a T se id pr en be th bs wh (nI q) len md nw) H := by rw [hH]; exact hP
  have hS : va_S A s.heap H [] := by rw [hH]; exact va_S.rf
  refine lv_iload_n hx hb dX2_end_0 rfl (lv_at hl 1 rfl) ?_
  refine lv_if_lt (tgt := 12) hx hb dX2_end_1 (by decide) (fun c1 => ?_) (fun c1 => ?_)
  · skip
    refine lv_iconst (v := (-1)) hx hb dX2_end_12 (by first | decide | rfl) ?_
    exact W.iret hx hb hr (fh_qi q (Or.inl ⟨rfl, Or.inl c1, rfl⟩) hP hK hD hS) hS.2.2 dX2_end_13
  · skip
    refine lv_iload_n hx hb dX2_end_4 rfl (lv_at hl 1 rfl) ?_
    refine lv_aload_n hx hb dX2_end_5 rfl (lv_at hl 0 rfl) ?_
    refine va_get (D := (dC, dI)) (ci := 2) (v := .int (nI q)) (C := RX2) (T := TX2) (N := 13) hx hb hts (by decide +kernel) hown hK hP 0 rfl rfl 1 (by decide) (hts (.fieldLink RX2 43 "FragmentHouseModel" "trayed" "I") (by decide +kernel)) (fun _ h9 => h9) rfl dX2_end_6 ?_
    refine lv_icmp_le (tgt := 14) hx hb dX2_end_9 (by decide) (fun c9 => ?_) (fun c9 => ?_)
    · skip
      obtain ⟨k, hk, rfl⟩ := nI_of c1
      refine lv_aload_n hx hb dX2_end_14 rfl (lv_at hl 0 rfl) ?_
      refine lv_iload_n hx hb dX2_end_15 rfl (lv_at hl 1 rfl) ?_
      refine va_put (D := (dC, dI)) (ci := 2) (v := .int (nI k)) (ty := .int) (C := RX2) (T := TX2) (N := 13) hx hb hts (by decide +kernel) tyX2 tyX2_ok nmX2 hown hK hP hD hS 0 rfl rfl 1 (by decide) (hts (.fieldLink RX2 43 "FragmentHouseModel" "trayed" "I") (by decide +kernel)) (fun _ h9 => h9) rfl (by decide +kernel) rfl rfl (Nat.le_of_ble_eq_true rfl) dX2_end_16 (fun H locs hP hD hS => ?_)
      have hP : va_P (dC, dI) vwCl (wM cI cB cZ a T se id pr en be th bs wh ((nI k)) len md nw) H := hP
      have hD : va_D A (wM cI cB cZ a T se id pr en be th bs wh ((nI k)) len md nw) := hD
      refine lv_iload_n hx hb dX2_end_19 rfl (lv_at hl 1 rfl) ?_
      exact W.iret hx hb hr (fh_qi k (Or.inr ⟨k, (nI_leI hk (by omega)).mp c9, rfl, rfl, rfl⟩) hP hK hD hS) hS.2.2 dX2_end_20
    · skip
      refine lv_iconst (v := (-1)) hx hb dX2_end_12 (by first | decide | rfl) ?_
      exact W.iret hx hb hr (fh_qi q (Or.inl ⟨rfl, Or.inr c9, rfl⟩) hP hK hD hS) hS.2.2 dX2_end_13
set_option maxHeartbeats 4000000 in
set_option maxRecDepth 100000 in
/-- making -/
theorem m_making (l : Launch) (dC : Nat → ClassId) (dI : Nat → Nat → Nat) (cI cB cZ : ClassId) (a : Nat → Nat) (T se id pr en be th bs wh : Nat → Int32) (n len md nw : Int32) (sz : Nat)  : Met l yX2_making wsX2_making ({ frames := 0, cells := 0, slots := 0, locals := 0 }) (va_Pc [.ref (a 0)] (PW (dC, dI) vwCl [(cI, .int), (cB, .byte), (cZ, .boolean)] (wM cI cB cZ a T se id pr en be th bs wh n len md nw) sz)) (va_Qi (S := Unit) (fun r _ => r = nI (mkM th 4)) (QW (dC, dI) vwCl (fun _ => [(cI, .int), (cB, .byte), (cZ, .boolean)]) (va_A (wM cI cB cZ a T se id pr en be th bs wh n len md nw) sz) (fun _ => wM cI cB cZ a T se id pr en be th bs wh n len md nw)) (va_A (wM cI cB cZ a T se id pr en be th bs wh n len md nw) sz)) 0 0 (va_A (wM cI cB cZ a T se id pr en be th bs wh n len md nw) sz) := by
  refine Met.ofW (cc := cX2_making) (maxL := 3) (ret := (some .int)) (by decide) rfl ?_
  intro p e s m args below meth c s₁ B hml hv
  obtain ⟨rfl, hsz, hP, hK, hD0⟩ := hv
  have hx := B.exec
  have hb := B.bytes
  have hr := B.returns
  have hts := atoms_spec (ws := wsX2_making) B.pre
  have hown : s.vm.findClass RX2 = some m.cls := findClass_of_methodNamed B.named
  have hlocks := B.notSynchronized
  subst hsz
  have hD := hD0.self (sz := s.heap.size)
  generalize hAe : va_A (wM cI cB cZ a T se id pr en be th bs wh n len md nw) s.heap.size = A at hD ⊢
  have hA : ∀ q : Nat, s.heap.size ≤ q → A q := fun q h => by rw [← hAe]; exact Or.inr h
  have hS : va_S A s.heap s.heap [] := va_S.rf
  have hl := lv_entry ([.ref (a 0)]) (n := 3) (Nat.le_of_ble_eq_true rfl)
  rw [lg_entry_eq]
  generalize (lg_sl ([.ref (a 0)]) ++ List.replicate (3 - (lg_sl ([.ref (a 0)])).length) Slot.unset).toArray = ls at hl ⊢
  have hl : lv_has ls 3 [(0, .ref (a 0))] := hl
  refine fh_start (fun H hH => ?_)
  have hP : va_P (dC, dI) vwCl (wM cI cB cZ a T se id pr en be th bs wh n len md nw) H := by rw [hH]; exact hP
  have hS : va_S A s.heap H [] := by rw [hH]; exact va_S.rf
  refine lv_iconst (v := nI (mkM th 0)) hx hb dX2_making_0 (by first | decide | rfl) ?_
  refine lv_istore_n (lv' := [(1, .int (nI (mkM th 0))), (0, .ref (a 0))]) hx hb dX2_making_1 rfl hl (by decide) rfl (fun ls hl => ?_)
  refine lv_iconst (v := nI 0) hx hb dX2_making_2 (by first | decide | rfl) ?_
  refine lv_istore_n (lv' := [(2, .int (nI 0)), (1, .int (nI (mkM th 0))), (0, .ref (a 0))]) hx hb dX2_making_3 rfl hl (by decide) rfl (fun ls hl => ?_)
  refine fh_loop (σ := Nat) (fun q9 H locs ls => (q9 ≤ 4) ∧ va_P (dC, dI) vwCl (wM cI cB cZ a T se id pr en be th bs wh n len md nw) H ∧ va_D A (wM cI cB cZ a T se id pr en be th bs wh n len md nw) ∧ va_S A s.heap H locs ∧ lv_has ls 3 [(0, .ref (a 0)), (1, .int (nI (mkM th q9))), (2, .int (nI q9))]) (fun q9 => 4 - q9) ?_ (0) ⟨Nat.zero_le _, hP, hD, hS, lv_sub hl [2, 1, 0] rfl⟩
  intro q9 H locs ls hI ih
  obtain ⟨k, rfl⟩ : ∃ z, z = q9 := ⟨_, rfl⟩
  obtain ⟨hk, hP, hD, hS, hl⟩ : (k ≤ 4) ∧ va_P (dC, dI) vwCl (wM cI cB cZ a T se id pr en be th bs wh n len md nw) H ∧ va_D A (wM cI cB cZ a T se id pr en be th bs wh n len md nw) ∧ va_S A s.heap H locs ∧ lv_has ls 3 [(0, .ref (a 0)), (1, .int (nI (mkM th k))), (2, .int (nI k))] := hI
  refine lv_iload_n hx hb dX2_making_4 rfl (lv_at hl 2 rfl) ?_
  refine lv_iconst (v := nI 4) hx hb dX2_making_5 (by first | decide | rfl) ?_
  refine lv_icmp_ge (tgt := 27) hx hb dX2_making_6 (by decide) (fun c6 => ?_) (fun c6 => ?_)
  · skip
    refine lv_iload_n hx hb dX2_making_27 rfl (lv_at hl 1 rfl) ?_
    obtain rfl : k = 4 := Nat.le_antisymm hk ((nI_leI (by omega) (by omega)).mp c6)
    exact W.iret hx hb hr (fh_qi () rfl hP hK hD hS) hS.2.2 dX2_making_28
  · skip
    have hlt : k < 4 := Nat.lt_of_not_le (fun h => c6 (nI_le h (by omega)))
    refine lv_aload_n hx hb dX2_making_9 rfl (lv_at hl 0 rfl) ?_
    refine va_get (D := (dC, dI)) (ci := 2) (v := .ref (a 7)) (C := RX2) (T := TX2) (N := 13) hx hb hts (by decide +kernel) hown hK hP 0 rfl rfl 7 (by decide) (hts (.fieldLink RX2 29 "FragmentHouseModel" "there" "[Z") (by decide +kernel)) (fun _ h9 => h9) rfl dX2_making_10 ?_
    refine lv_iload_n hx hb dX2_making_13 rfl (lv_at hl 2 rfl) ?_
    refine fh_zald (k := k) hx hb hK hP 7 2 rfl rfl hlt (by first | decide | omega) dX2_making_14 ?_
    refine lv_if_eq (tgt := 21) hx hb dX2_making_15 (by decide) (fun c15 => ?_) (fun c15 => ?_)
    · skip
      refine lv_iinc (v := (nI (k + 1))) (lv' := [(2, .int (nI (k + 1))), (0, .ref (a 0)), (1, .int (nI (mkM th k)))]) hx hb dX2_making_21 hl (k := 2) rfl (nI_1 k) (by decide) rfl (fun ls hl => ?_)
      refine lv_goto (tgt := 4) hx hb dX2_making_24 (by decide) ?_
      rw [← mkM_s2 c15] at hl
      exact ih (k + 1) _ _ _ ⟨hlt, hP, hD, hS, lv_sub hl [1, 2, 0] rfl⟩ (by show 4 - (k + 1) < 4 - k; omega)
    · skip
      refine lv_iinc (v := (nI ((mkM th k) + 1))) (lv' := [(1, .int (nI ((mkM th k) + 1))), (0, .ref (a 0)), (2, .int (nI k))]) hx hb dX2_making_18 hl (k := 1) rfl (nI_1 ((mkM th k))) (by decide) rfl (fun ls hl => ?_)
      refine lv_iinc (v := (nI (k + 1))) (lv' := [(2, .int (nI (k + 1))), (1, .int (nI ((mkM th k) + 1))), (0, .ref (a 0))]) hx hb dX2_making_21 hl (k := 2) rfl (nI_1 k) (by decide) rfl (fun ls hl => ?_)
      refine lv_goto (tgt := 4) hx hb dX2_making_24 (by decide) ?_
      rw [← mkM_s1 c15] at hl
      exact ih (k + 1) _ _ _ ⟨hlt, hP, hD, hS, lv_sub hl [2, 1, 0] rfl⟩ (by show 4 - (k + 1) < 4 - k; omega)
set_option maxHeartbeats 4000000 in
set_option maxRecDepth 100000 in
/-- made -/
theorem m_made (l : Launch) (dC : Nat → ClassId) (dI : Nat → Nat → Nat) (cI cB cZ : ClassId) (a : Nat → Nat) (T se id pr en be th bs wh : Nat → Int32) (n len md nw : Int32) (sz : Nat)  : Met l yX2_made wsX2_made ({ frames := 0, cells := 0, slots := 0, locals := 0 }) (va_Pc [.ref (a 0)] (PW (dC, dI) vwCl [(cI, .int), (cB, .byte), (cZ, .boolean)] (wM cI cB cZ a T se id pr en be th bs wh n len md nw) sz)) (va_Qi (S := Unit) (fun r _ => r = md) (QW (dC, dI) vwCl (fun _ => [(cI, .int), (cB, .byte), (cZ, .boolean)]) (va_A (wM cI cB cZ a T se id pr en be th bs wh n len md nw) sz) (fun _ => wM cI cB cZ a T se id pr en be th bs wh n len md nw)) (va_A (wM cI cB cZ a T se id pr en be th bs wh n len md nw) sz)) 0 0 (va_A (wM cI cB cZ a T se id pr en be th bs wh n len md nw) sz) := by
  refine Met.ofW (cc := cX2_made) (maxL := 1) (ret := (some .int)) (by decide) rfl ?_
  intro p e s m args below meth c s₁ B hml hv
  obtain ⟨rfl, hsz, hP, hK, hD0⟩ := hv
  have hx := B.exec
  have hb := B.bytes
  have hr := B.returns
  have hts := atoms_spec (ws := wsX2_made) B.pre
  have hown : s.vm.findClass RX2 = some m.cls := findClass_of_methodNamed B.named
  have hlocks := B.notSynchronized
  subst hsz
  have hD := hD0.self (sz := s.heap.size)
  generalize hAe : va_A (wM cI cB cZ a T se id pr en be th bs wh n len md nw) s.heap.size = A at hD ⊢
  have hA : ∀ q : Nat, s.heap.size ≤ q → A q := fun q h => by rw [← hAe]; exact Or.inr h
  have hS : va_S A s.heap s.heap [] := va_S.rf
  have hl := lv_entry ([.ref (a 0)]) (n := 1) (Nat.le_of_ble_eq_true rfl)
  rw [lg_entry_eq]
  generalize (lg_sl ([.ref (a 0)]) ++ List.replicate (1 - (lg_sl ([.ref (a 0)])).length) Slot.unset).toArray = ls at hl ⊢
  have hl : lv_has ls 1 [(0, .ref (a 0))] := hl
  refine fh_start (fun H hH => ?_)
  have hP : va_P (dC, dI) vwCl (wM cI cB cZ a T se id pr en be th bs wh n len md nw) H := by rw [hH]; exact hP
  have hS : va_S A s.heap H [] := by rw [hH]; exact va_S.rf
  refine lv_aload_n hx hb dX2_made_0 rfl (lv_at hl 0 rfl) ?_
  refine va_get (D := (dC, dI)) (ci := 2) (v := .int md) (C := RX2) (T := TX2) (N := 13) hx hb hts (by decide +kernel) hown hK hP 0 rfl rfl 11 (by decide) (hts (.fieldLink RX2 60 "FragmentHouseModel" "made" "I") (by decide +kernel)) (fun _ h9 => h9) rfl dX2_made_1 ?_
  exact W.iret hx hb hr (fh_qi () rfl hP hK hD hS) hS.2.2 dX2_made_4
set_option maxHeartbeats 4000000 in
set_option maxRecDepth 100000 in
/-- length -/
theorem m_length (l : Launch) (dC : Nat → ClassId) (dI : Nat → Nat → Nat) (cI cB cZ : ClassId) (a : Nat → Nat) (T se id pr en be th bs wh : Nat → Int32) (n len md nw : Int32) (sz : Nat)  : Met l yX2_length wsX2_length ({ frames := 0, cells := 0, slots := 0, locals := 0 }) (va_Pc [.ref (a 0)] (PW (dC, dI) vwCl [(cI, .int), (cB, .byte), (cZ, .boolean)] (wM cI cB cZ a T se id pr en be th bs wh n len md nw) sz)) (va_Qi (S := Unit) (fun r _ => r = len) (QW (dC, dI) vwCl (fun _ => [(cI, .int), (cB, .byte), (cZ, .boolean)]) (va_A (wM cI cB cZ a T se id pr en be th bs wh n len md nw) sz) (fun _ => wM cI cB cZ a T se id pr en be th bs wh n len md nw)) (va_A (wM cI cB cZ a T se id pr en be th bs wh n len md nw) sz)) 0 0 (va_A (wM cI cB cZ a T se id pr en be th bs wh n len md nw) sz) := by
  refine Met.ofW (cc := cX2_length) (maxL := 1) (ret := (some .int)) (by decide) rfl ?_
  intro p e s m args below meth c s₁ B hml hv
  obtain ⟨rfl, hsz, hP, hK, hD0⟩ := hv
  have hx := B.exec
  have hb := B.bytes
  have hr := B.returns
  have hts := atoms_spec (ws := wsX2_length) B.pre
  have hown : s.vm.findClass RX2 = some m.cls := findClass_of_methodNamed B.named
  have hlocks := B.notSynchronized
  subst hsz
  have hD := hD0.self (sz := s.heap.size)
  generalize hAe : va_A (wM cI cB cZ a T se id pr en be th bs wh n len md nw) s.heap.size = A at hD ⊢
  have hA : ∀ q : Nat, s.heap.size ≤ q → A q := fun q h => by rw [← hAe]; exact Or.inr h
  have hS : va_S A s.heap s.heap [] := va_S.rf
  have hl := lv_entry ([.ref (a 0)]) (n := 1) (Nat.le_of_ble_eq_true rfl)
  rw [lg_entry_eq]
  generalize (lg_sl ([.ref (a 0)]) ++ List.replicate (1 - (lg_sl ([.ref (a 0)])).length) Slot.unset).toArray = ls at hl ⊢
  have hl : lv_has ls 1 [(0, .ref (a 0))] := hl
  refine fh_start (fun H hH => ?_)
  have hP : va_P (dC, dI) vwCl (wM cI cB cZ a T se id pr en be th bs wh n len md nw) H := by rw [hH]; exact hP
  have hS : va_S A s.heap H [] := by rw [hH]; exact va_S.rf
  refine lv_aload_n hx hb dX2_length_0 rfl (lv_at hl 0 rfl) ?_
  refine va_get (D := (dC, dI)) (ci := 2) (v := .int len) (C := RX2) (T := TX2) (N := 13) hx hb hts (by decide +kernel) hown hK hP 0 rfl rfl 10 (by decide) (hts (.fieldLink RX2 39 "FragmentHouseModel" "length" "I") (by decide +kernel)) (fun _ h9 => h9) rfl dX2_length_1 ?_
  exact W.iret hx hb hr (fh_qi () rfl hP hK hD hS) hS.2.2 dX2_length_4
set_option maxHeartbeats 4000000 in
set_option maxRecDepth 100000 in
/-- at -/
theorem m_at (l : Launch) (dC : Nat → ClassId) (dI : Nat → Nat → Nat) (cI cB cZ : ClassId) (a : Nat → Nat) (T se id pr en be th bs wh : Nat → Int32) (n len md nw : Int32) (p1 : Int32) (sz : Nat) (hw6 : len ≤ nI 4096) : Met l yX2_at wsX2_at ({ frames := 0, cells := 0, slots := 0, locals := 0 }) (va_Pc [.ref (a 0), .int p1] (PW (dC, dI) vwCl [(cI, .int), (cB, .byte), (cZ, .boolean)] (wM cI cB cZ a T se id pr en be th bs wh n len md nw) sz)) (va_Qi (S := Unit) (fun r _ => (r = -1 ∧ (p1 < 0 ∨ ¬ p1 < len)) ∨ (∃ k, k < 4096 ∧ p1 = nI k ∧ nI k < len ∧ r = wh k)) (QW (dC, dI) vwCl (fun _ => [(cI, .int), (cB, .byte), (cZ, .boolean)]) (va_A (wM cI cB cZ a T se id pr en be th bs wh n len md nw) sz) (fun _ => wM cI cB cZ a T se id pr en be th bs wh n len md nw)) (va_A (wM cI cB cZ a T se id pr en be th bs wh n len md nw) sz)) 0 0 (va_A (wM cI cB cZ a T se id pr en be th bs wh n len md nw) sz) := by
  refine Met.ofW (cc := cX2_at) (maxL := 2) (ret := (some .int)) (by decide) rfl ?_
  intro p e s m args below meth c s₁ B hml hv
  obtain ⟨rfl, hsz, hP, hK, hD0⟩ := hv
  have hx := B.exec
  have hb := B.bytes
  have hr := B.returns
  have hts := atoms_spec (ws := wsX2_at) B.pre
  have hown : s.vm.findClass RX2 = some m.cls := findClass_of_methodNamed B.named
  have hlocks := B.notSynchronized
  subst hsz
  have hD := hD0.self (sz := s.heap.size)
  generalize hAe : va_A (wM cI cB cZ a T se id pr en be th bs wh n len md nw) s.heap.size = A at hD ⊢
  have hA : ∀ q : Nat, s.heap.size ≤ q → A q := fun q h => by rw [← hAe]; exact Or.inr h
  have hS : va_S A s.heap s.heap [] := va_S.rf
  have hl := lv_entry ([.ref (a 0), .int p1]) (n := 2) (Nat.le_of_ble_eq_true rfl)
  rw [lg_entry_eq]
  generalize (lg_sl ([.ref (a 0), .int p1]) ++ List.replicate (2 - (lg_sl ([.ref (a 0), .int p1])).length) Slot.unset).toArray = ls at hl ⊢
  have hl : lv_has ls 2 [(0, .ref (a 0)), (1, .int p1)] := hl
  refine fh_start (fun H hH => ?_)
  have hP : va_P (dC, dI) vwCl (wM cI cB cZ a T se id pr en be th bs wh n len md nw) H := by rw [hH]; exact hP
  have hS : va_S A s.heap H [] := by rw [hH]; exact va_S.rf
  refine lv_iload_n hx hb dX2_at_0 rfl (lv_at hl 1 rfl) ?_
  refine lv_if_lt (tgt := 21) hx hb dX2_at_1 (by decide) (fun c1 => ?_) (fun c1 => ?_)
  · skip
    refine lv_iconst (v := (-1)) hx hb dX2_at_21 (by first | decide | rfl) ?_
    exact W.iret hx hb hr (fh_qi () (Or.inl ⟨rfl, Or.inl c1⟩) hP hK hD hS) hS.2.2 dX2_at_22
  · skip
    refine lv_iload_n hx hb dX2_at_4 rfl (lv_at hl 1 rfl) ?_
    refine lv_aload_n hx hb dX2_at_5 rfl (lv_at hl 0 rfl) ?_
    refine va_get (D := (dC, dI)) (ci := 2) (v := .int len) (C := RX2) (T := TX2) (N := 13) hx hb hts (by decide +kernel) hown hK hP 0 rfl rfl 10 (by decide) (hts (.fieldLink RX2 39 "FragmentHouseModel" "length" "I") (by decide +kernel)) (fun _ h9 => h9) rfl dX2_at_6 ?_
    refine lv_icmp_ge (tgt := 21) hx hb dX2_at_9 (by decide) (fun c9 => ?_) (fun c9 => ?_)
    · skip
      refine lv_iconst (v := (-1)) hx hb dX2_at_21 (by first | decide | rfl) ?_
      exact W.iret hx hb hr (fh_qi () (Or.inl ⟨rfl, Or.inr (Int32.not_lt.mpr c9)⟩) hP hK hD hS) hS.2.2 dX2_at_22
    · skip
      obtain ⟨k, hk0, rfl⟩ := nI_of c1
      have hk : k < 4096 := (nI_ltI hk0 (by decide)).mp (Int32.lt_of_lt_of_le (Int32.not_le.mp c9) hw6)
      refine lv_aload_n hx hb dX2_at_12 rfl (lv_at hl 0 rfl) ?_
      refine va_get (D := (dC, dI)) (ci := 2) (v := .ref (a 9)) (C := RX2) (T := TX2) (N := 13) hx hb hts (by decide +kernel) hown hK hP 0 rfl rfl 9 (by decide) (hts (.fieldLink RX2 36 "FragmentHouseModel" "whole" "[I") (by decide +kernel)) (fun _ h9 => h9) rfl dX2_at_13 ?_
      refine lv_iload_n hx hb dX2_at_16 rfl (lv_at hl 1 rfl) ?_
      refine fh_iald (k := k) hx hb hK hP 9 0 rfl rfl hk (by first | decide | omega) dX2_at_17 ?_
      refine lv_goto (tgt := 22) hx hb dX2_at_18 (by decide) ?_
      exact W.iret hx hb hr (fh_qi () (Or.inr ⟨k, hk, rfl, Int32.not_le.mp c9, rfl⟩) hP hK hD hS) hS.2.2 dX2_at_22
set_option maxHeartbeats 4000000 in
set_option maxRecDepth 100000 in
/-- pass -/
theorem m_pass (l : Launch) (dC : Nat → ClassId) (dI : Nat → Nat → Nat) (cI cB cZ : ClassId) (a : Nat → Nat) (T se id pr en be th bs wh : Nat → Int32) (n len md nw : Int32) (p1 : Int32) (sz : Nat)  : Met l yX2_pass wsX2_pass ({ frames := 0, cells := 0, slots := 0, locals := 0 }) (va_Pc [.ref (a 0), .int p1] (PW (dC, dI) vwCl [(cI, .int), (cB, .byte), (cZ, .boolean)] (wM cI cB cZ a T se id pr en be th bs wh n len md nw) sz)) (va_Qi (S := (Nat → Int32) × Int32) (fun r u => (r = -1 ∧ (p1 < nw ∨ ¬ p1 ≤ 2000000000) ∧ u = (th, nw)) ∨ (¬ p1 < nw ∧ p1 ≤ 2000000000 ∧ r = nI (psN p1 th be 4) ∧ u = (psT p1 th be 4, p1))) (QW (dC, dI) vwCl (fun _ => [(cI, .int), (cB, .byte), (cZ, .boolean)]) (va_A (wM cI cB cZ a T se id pr en be th bs wh n len md nw) sz) (fun u => wM cI cB cZ a T se id pr en be u.1 bs wh n len md u.2)) (va_A (wM cI cB cZ a T se id pr en be th bs wh n len md nw) sz)) 0 0 (va_A (wM cI cB cZ a T se id pr en be th bs wh n len md nw) sz) := by
  refine Met.ofW (cc := cX2_pass) (maxL := 4) (ret := (some .int)) (by decide) rfl ?_
  intro p e s m args below meth c s₁ B hml hv
  obtain ⟨rfl, hsz, hP, hK, hD0⟩ := hv
  have hx := B.exec
  have hb := B.bytes
  have hr := B.returns
  have hts := atoms_spec (ws := wsX2_pass) B.pre
  have hown : s.vm.findClass RX2 = some m.cls := findClass_of_methodNamed B.named
  have hlocks := B.notSynchronized
  subst hsz
  have hD := hD0.self (sz := s.heap.size)
  generalize hAe : va_A (wM cI cB cZ a T se id pr en be th bs wh n len md nw) s.heap.size = A at hD ⊢
  have hA : ∀ q : Nat, s.heap.size ≤ q → A q := fun q h => by rw [← hAe]; exact Or.inr h
  have hS : va_S A s.heap s.heap [] := va_S.rf
  have hl := lv_entry ([.ref (a 0), .int p1]) (n := 4) (Nat.le_of_ble_eq_true rfl)
  rw [lg_entry_eq]
  generalize (lg_sl ([.ref (a 0), .int p1]) ++ List.replicate (4 - (lg_sl ([.ref (a 0), .int p1])).length) Slot.unset).toArray = ls at hl ⊢
  have hl : lv_has ls 4 [(0, .ref (a 0)), (1, .int p1)] := hl
  refine fh_start (fun H hH => ?_)
  have hP : va_P (dC, dI) vwCl (wM cI cB cZ a T se id pr en be th bs wh n len md nw) H := by rw [hH]; exact hP
  have hS : va_S A s.heap H [] := by rw [hH]; exact va_S.rf
  refine lv_iload_n hx hb dX2_pass_0 rfl (lv_at hl 1 rfl) ?_
  refine lv_aload_n hx hb dX2_pass_1 rfl (lv_at hl 0 rfl) ?_
  refine va_get (D := (dC, dI)) (ci := 2) (v := .int nw) (C := RX2) (T := TX2) (N := 13) hx hb hts (by decide +kernel) hown hK hP 0 rfl rfl 12 (by decide) (hts (.fieldLink RX2 50 "FragmentHouseModel" "now" "I") (by decide +kernel)) (fun _ h9 => h9) rfl dX2_pass_2 ?_
  refine lv_icmp_lt (tgt := 14) hx hb dX2_pass_5 (by decide) (fun c5 => ?_) (fun c5 => ?_)
  · skip
    refine lv_iconst (v := (-1)) hx hb dX2_pass_14 (by first | decide | rfl) ?_
    exact W.iret hx hb hr (fh_qi (th, nw) (Or.inl ⟨rfl, Or.inl c5, rfl⟩) hP hK hD hS) hS.2.2 dX2_pass_15
  · skip
    refine lv_iload_n hx hb dX2_pass_8 rfl (lv_at hl 1 rfl) ?_
    refine lv_ldc (v := 2000000000) hx hb hown (hts (.constant RX2 63 (2000000000)) (by decide +kernel)) dX2_pass_9 ?_
    refine lv_icmp_le (tgt := 16) hx hb dX2_pass_11 (by decide) (fun c11 => ?_) (fun c11 => ?_)
    · skip
      refine lv_aload_n hx hb dX2_pass_16 rfl (lv_at hl 0 rfl) ?_
      refine lv_iload_n hx hb dX2_pass_17 rfl (lv_at hl 1 rfl) ?_
      refine va_put (D := (dC, dI)) (ci := 2) (v := .int p1) (ty := .int) (C := RX2) (T := TX2) (N := 13) hx hb hts (by decide +kernel) tyX2 tyX2_ok nmX2 hown hK hP hD hS 0 rfl rfl 12 (by decide) (hts (.fieldLink RX2 50 "FragmentHouseModel" "now" "I") (by decide +kernel)) (fun _ h9 => h9) rfl (by decide +kernel) rfl rfl (Nat.le_of_ble_eq_true rfl) dX2_pass_18 (fun H locs hP hD hS => ?_)
      have hP : va_P (dC, dI) vwCl (wM cI cB cZ a T se id pr en be th bs wh n len md p1) H := hP
      have hD : va_D A (wM cI cB cZ a T se id pr en be th bs wh n len md p1) := hD
      refine lv_iconst (v := nI (psN p1 th be 0)) hx hb dX2_pass_21 (by first | decide | rfl) ?_
      refine lv_istore_n (lv' := [(2, .int (nI (psN p1 th be 0))), (0, .ref (a 0)), (1, .int p1)]) hx hb dX2_pass_22 rfl hl (by decide) rfl (fun ls hl => ?_)
      refine lv_iconst (v := nI 0) hx hb dX2_pass_23 (by first | decide | rfl) ?_
      refine lv_istore_n (lv' := [(3, .int (nI 0)), (2, .int (nI (psN p1 th be 0))), (0, .ref (a 0)), (1, .int p1)]) hx hb dX2_pass_24 rfl hl (by decide) rfl (fun ls hl => ?_)
      have hP : va_P (dC, dI) vwCl (wM cI cB cZ a T se id pr en be (psT p1 th be 0) bs wh n len md p1) H := by rw [psT_0]; exact hP
      have hD : va_D A (wM cI cB cZ a T se id pr en be (psT p1 th be 0) bs wh n len md p1) := by rw [psT_0]; exact hD
      refine fh_loop (σ := Nat) (fun q9 H locs ls => (q9 ≤ 4) ∧ va_P (dC, dI) vwCl (wM cI cB cZ a T se id pr en be (psT p1 th be q9) bs wh n len md p1) H ∧ va_D A (wM cI cB cZ a T se id pr en be (psT p1 th be q9) bs wh n len md p1) ∧ va_S A s.heap H locs ∧ lv_has ls 4 [(0, .ref (a 0)), (1, .int p1), (2, .int (nI (psN p1 th be q9))), (3, .int (nI q9))]) (fun q9 => 4 - q9) ?_ (0) ⟨Nat.zero_le _, hP, hD, hS, lv_sub hl [2, 3, 1, 0] rfl⟩
      intro q9 H locs ls hI ih
      obtain ⟨k, rfl⟩ : ∃ z, z = q9 := ⟨_, rfl⟩
      obtain ⟨hk, hP, hD, hS, hl⟩ : (k ≤ 4) ∧ va_P (dC, dI) vwCl (wM cI cB cZ a T se id pr en be (psT p1 th be k) bs wh n len md p1) H ∧ va_D A (wM cI cB cZ a T se id pr en be (psT p1 th be k) bs wh n len md p1) ∧ va_S A s.heap H locs ∧ lv_has ls 4 [(0, .ref (a 0)), (1, .int p1), (2, .int (nI (psN p1 th be k))), (3, .int (nI k))] := hI
      refine lv_iload_n hx hb dX2_pass_25 rfl (lv_at hl 3 rfl) ?_
      refine lv_iconst (v := nI 4) hx hb dX2_pass_26 (by first | decide | rfl) ?_
      refine lv_icmp_ge (tgt := 69) hx hb dX2_pass_27 (by decide) (fun c27 => ?_) (fun c27 => ?_)
      · skip
        refine lv_iload_n hx hb dX2_pass_69 rfl (lv_at hl 2 rfl) ?_
        obtain rfl : k = 4 := Nat.le_antisymm hk ((nI_leI (by omega) (by omega)).mp c27)
        exact W.iret hx hb hr (fh_qi (psT p1 th be 4, p1) (Or.inr ⟨c5, c11, rfl, rfl⟩) hP hK hD hS) hS.2.2 dX2_pass_70
      · skip
        have hlt : k < 4 := Nat.lt_of_not_le (fun h => c27 (nI_le h (by omega)))
        refine lv_aload_n hx hb dX2_pass_30 rfl (lv_at hl 0 rfl) ?_
        refine va_get (D := (dC, dI)) (ci := 2) (v := .ref (a 7)) (C := RX2) (T := TX2) (N := 13) hx hb hts (by decide +kernel) hown hK hP 0 rfl rfl 7 (by decide) (hts (.fieldLink RX2 29 "FragmentHouseModel" "there" "[Z") (by decide +kernel)) (fun _ h9 => h9) rfl dX2_pass_31 ?_
        refine lv_iload_n hx hb dX2_pass_34 rfl (lv_at hl 3 rfl) ?_
        refine fh_zald (k := k) hx hb hK hP 7 2 rfl rfl hlt (by first | decide | omega) dX2_pass_35 ?_
        refine fh_top (y := th k) (psT_at p1 th be k) ?_
        refine lv_if_eq (tgt := 63) hx hb dX2_pass_36 (by decide) (fun c36 => ?_) (fun c36 => ?_)
        · skip
          refine lv_iinc (v := (nI (k + 1))) (lv' := [(3, .int (nI (k + 1))), (0, .ref (a 0)), (1, .int p1), (2, .int (nI (psN p1 th be k)))]) hx hb dX2_pass_63 hl (k := 3) rfl (nI_1 k) (by decide) rfl (fun ls hl => ?_)
          refine lv_goto (tgt := 25) hx hb dX2_pass_66 (by decide) ?_
          have hP : va_P (dC, dI) vwCl (wM cI cB cZ a T se id pr en be (psT p1 th be (k + 1)) bs wh n len md p1) H := by rw [← psT_s2 (fun z => z.1 c36)]; exact hP
          have hD : va_D A (wM cI cB cZ a T se id pr en be (psT p1 th be (k + 1)) bs wh n len md p1) := by rw [← psT_s2 (fun z => z.1 c36)]; exact hD
          rw [← psN_s2 (fun z => z.1 c36)] at hl
          exact ih (k + 1) _ _ _ ⟨hlt, hP, hD, hS, lv_sub hl [1, 2, 3, 0] rfl⟩ (by show 4 - (k + 1) < 4 - k; omega)
        · skip
          refine lv_iload_n hx hb dX2_pass_39 rfl (lv_at hl 1 rfl) ?_
          refine lv_aload_n hx hb dX2_pass_40 rfl (lv_at hl 0 rfl) ?_
          refine va_get (D := (dC, dI)) (ci := 2) (v := .ref (a 6)) (C := RX2) (T := TX2) (N := 13) hx hb hts (by decide +kernel) hown hK hP 0 rfl rfl 6 (by decide) (hts (.fieldLink RX2 26 "FragmentHouseModel" "begun" "[I") (by decide +kernel)) (fun _ h9 => h9) rfl dX2_pass_41 ?_
          refine lv_iload_n hx hb dX2_pass_44 rfl (lv_at hl 3 rfl) ?_
          refine fh_iald (k := k) hx hb hK hP 6 0 rfl rfl hlt (by first | decide | omega) dX2_pass_45 ?_
          refine lv_isub hx hb dX2_pass_46 ?_
          refine lv_sipush (v := 15000) hx hb dX2_pass_47 (by first | decide | rfl) ?_
          refine lv_icmp_lt (tgt := 63) hx hb dX2_pass_50 (by decide) (fun c50 => ?_) (fun c50 => ?_)
          · skip
            refine lv_iinc (v := (nI (k + 1))) (lv' := [(3, .int (nI (k + 1))), (0, .ref (a 0)), (1, .int p1), (2, .int (nI (psN p1 th be k)))]) hx hb dX2_pass_63 hl (k := 3) rfl (nI_1 k) (by decide) rfl (fun ls hl => ?_)
            refine lv_goto (tgt := 25) hx hb dX2_pass_66 (by decide) ?_
            have hP : va_P (dC, dI) vwCl (wM cI cB cZ a T se id pr en be (psT p1 th be (k + 1)) bs wh n len md p1) H := by rw [← psT_s2 (fun z => absurd c50 (Int32.not_lt.mpr z.2))]; exact hP
            have hD : va_D A (wM cI cB cZ a T se id pr en be (psT p1 th be (k + 1)) bs wh n len md p1) := by rw [← psT_s2 (fun z => absurd c50 (Int32.not_lt.mpr z.2))]; exact hD
            rw [← psN_s2 (fun z => absurd c50 (Int32.not_lt.mpr z.2))] at hl
            exact ih (k + 1) _ _ _ ⟨hlt, hP, hD, hS, lv_sub hl [1, 2, 3, 0] rfl⟩ (by show 4 - (k + 1) < 4 - k; omega)
          · skip
            refine lv_aload_n hx hb dX2_pass_53 rfl (lv_at hl 0 rfl) ?_
            refine va_get (D := (dC, dI)) (ci := 2) (v := .ref (a 7)) (C := RX2) (T := TX2) (N := 13) hx hb hts (by decide +kernel) hown hK hP 0 rfl rfl 7 (by decide) (hts (.fieldLink RX2 29 "FragmentHouseModel" "there" "[Z") (by decide +kernel)) (fun _ h9 => h9) rfl dX2_pass_54 ?_
            refine lv_iload_n hx hb dX2_pass_57 rfl (lv_at hl 3 rfl) ?_
            refine lv_iconst (v := 0) hx hb dX2_pass_58 (by first | decide | rfl) ?_
            refine fh_zast (k := k) hx hb hK hP hD hS 7 2 rfl rfl rfl hlt (by first | decide | omega) dX2_pass_59 (fun H locs hP hD hS => ?_)
            have hP : va_P (dC, dI) vwCl (wM cI cB cZ a T se id pr en be (upd ((psT p1 th be k)) k 0) bs wh n len md p1) H := hP
            have hD : va_D A (wM cI cB cZ a T se id pr en be (upd ((psT p1 th be k)) k 0) bs wh n len md p1) := hD
            refine lv_iinc (v := (nI ((psN p1 th be k) + 1))) (lv' := [(2, .int (nI ((psN p1 th be k) + 1))), (0, .ref (a 0)), (1, .int p1), (3, .int (nI k))]) hx hb dX2_pass_60 hl (k := 2) rfl (nI_1 ((psN p1 th be k))) (by decide) rfl (fun ls hl => ?_)
            refine lv_iinc (v := (nI (k + 1))) (lv' := [(3, .int (nI (k + 1))), (2, .int (nI ((psN p1 th be k) + 1))), (0, .ref (a 0)), (1, .int p1)]) hx hb dX2_pass_63 hl (k := 3) rfl (nI_1 k) (by decide) rfl (fun ls hl => ?_)
            refine lv_goto (tgt := 25) hx hb dX2_pass_66 (by decide) ?_
            have hP : va_P (dC, dI) vwCl (wM cI cB cZ a T se id pr en be (psT p1 th be (k + 1)) bs wh n len md p1) H := by rw [← psT_s1 c36 (Int32.not_lt.mp c50)]; exact hP
            have hD : va_D A (wM cI cB cZ a T se id pr en be (psT p1 th be (k + 1)) bs wh n len md p1) := by rw [← psT_s1 c36 (Int32.not_lt.mp c50)]; exact hD
            rw [← psN_s1 c36 (Int32.not_lt.mp c50)] at hl
            exact ih (k + 1) _ _ _ ⟨hlt, hP, hD, hS, lv_sub hl [2, 3, 1, 0] rfl⟩ (by show 4 - (k + 1) < 4 - k; omega)
    · skip
      refine lv_iconst (v := (-1)) hx hb dX2_pass_14 (by first | decide | rfl) ?_
      exact W.iret hx hb hr (fh_qi (th, nw) (Or.inl ⟨rfl, Or.inr c11, rfl⟩) hP hK hD hS) hS.2.2 dX2_pass_15
set_option maxHeartbeats 4000000 in
set_option maxRecDepth 100000 in
/-- find -/
theorem m_find (l : Launch) (dC : Nat → ClassId) (dI : Nat → Nat → Nat) (cI cB cZ : ClassId) (a : Nat → Nat) (T se id pr en be th bs wh : Nat → Int32) (n len md nw : Int32) (p1 p2 p3 : Int32) (sz : Nat)  : Met l yX2_find wsX2_find ({ frames := 0, cells := 0, slots := 0, locals := 0 }) (va_Pc [.ref (a 0), .int p1, .int p2, .int p3] (PW (dC, dI) vwCl [(cI, .int), (cB, .byte), (cZ, .boolean)] (wM cI cB cZ a T se id pr en be th bs wh n len md nw) sz)) (va_Qi (S := Unit) (fun r _ => (∃ k, k < 4 ∧ r = nI k ∧ th k ≠ 0 ∧ MK se id pr k p1 p2 p3) ∨ (r = -1 ∧ ∀ k, k < 4 → th k ≠ 0 → ¬ MK se id pr k p1 p2 p3)) (QW (dC, dI) vwCl (fun _ => [(cI, .int), (cB, .byte), (cZ, .boolean)]) (va_A (wM cI cB cZ a T se id pr en be th bs wh n len md nw) sz) (fun _ => wM cI cB cZ a T se id pr en be th bs wh n len md nw)) (va_A (wM cI cB cZ a T se id pr en be th bs wh n len md nw) sz)) 0 0 (va_A (wM cI cB cZ a T se id pr en be th bs wh n len md nw) sz) := by
  refine Met.ofW (cc := cX2_find) (maxL := 5) (ret := (some .int)) (by decide) rfl ?_
  intro p e s m args below meth c s₁ B hml hv
  obtain ⟨rfl, hsz, hP, hK, hD0⟩ := hv
  have hx := B.exec
  have hb := B.bytes
  have hr := B.returns
  have hts := atoms_spec (ws := wsX2_find) B.pre
  have hown : s.vm.findClass RX2 = some m.cls := findClass_of_methodNamed B.named
  have hlocks := B.notSynchronized
  subst hsz
  have hD := hD0.self (sz := s.heap.size)
  generalize hAe : va_A (wM cI cB cZ a T se id pr en be th bs wh n len md nw) s.heap.size = A at hD ⊢
  have hA : ∀ q : Nat, s.heap.size ≤ q → A q := fun q h => by rw [← hAe]; exact Or.inr h
  have hS : va_S A s.heap s.heap [] := va_S.rf
  have hl := lv_entry ([.ref (a 0), .int p1, .int p2, .int p3]) (n := 5) (Nat.le_of_ble_eq_true rfl)
  rw [lg_entry_eq]
  generalize (lg_sl ([.ref (a 0), .int p1, .int p2, .int p3]) ++ List.replicate (5 - (lg_sl ([.ref (a 0), .int p1, .int p2, .int p3])).length) Slot.unset).toArray = ls at hl ⊢
  have hl : lv_has ls 5 [(0, .ref (a 0)), (1, .int p1), (2, .int p2), (3, .int p3)] := hl
  refine fh_start (fun H hH => ?_)
  have hP : va_P (dC, dI) vwCl (wM cI cB cZ a T se id pr en be th bs wh n len md nw) H := by rw [hH]; exact hP
  have hS : va_S A s.heap H [] := by rw [hH]; exact va_S.rf
  refine lv_iconst (v := nI 0) hx hb dX2_find_0 (by first | decide | rfl) ?_
  refine lv_istore (lv' := [(4, .int (nI 0)), (0, .ref (a 0)), (1, .int p1), (2, .int p2), (3, .int p3)]) hx hb dX2_find_1 hl (by decide) rfl (fun ls hl => ?_)
  refine fh_loop (σ := Nat) (fun q9 H locs ls => (q9 ≤ 4) ∧ (∀ j, j < q9 → th j ≠ 0 → ¬ MK se id pr j p1 p2 p3) ∧ va_P (dC, dI) vwCl (wM cI cB cZ a T se id pr en be th bs wh n len md nw) H ∧ va_D A (wM cI cB cZ a T se id pr en be th bs wh n len md nw) ∧ va_S A s.heap H locs ∧ lv_has ls 5 [(0, .ref (a 0)), (1, .int p1), (2, .int p2), (3, .int p3), (4, .int (nI q9))]) (fun q9 => 4 - q9) ?_ (0) ⟨Nat.zero_le _, fun j h => absurd h (Nat.not_lt_zero _), hP, hD, hS, lv_sub hl [1, 2, 3, 4, 0] rfl⟩
  intro q9 H locs ls hI ih
  obtain ⟨k, rfl⟩ : ∃ z, z = q9 := ⟨_, rfl⟩
  obtain ⟨hk, hno, hP, hD, hS, hl⟩ : (k ≤ 4) ∧ (∀ j, j < k → th j ≠ 0 → ¬ MK se id pr j p1 p2 p3) ∧ va_P (dC, dI) vwCl (wM cI cB cZ a T se id pr en be th bs wh n len md nw) H ∧ va_D A (wM cI cB cZ a T se id pr en be th bs wh n len md nw) ∧ va_S A s.heap H locs ∧ lv_has ls 5 [(0, .ref (a 0)), (1, .int p1), (2, .int p2), (3, .int p3), (4, .int (nI k))] := hI
  refine lv_iload hx hb dX2_find_3 (lv_at hl 4 rfl) ?_
  refine lv_iconst (v := nI 4) hx hb dX2_find_5 (by first | decide | rfl) ?_
  refine lv_icmp_ge (tgt := 61) hx hb dX2_find_6 (by decide) (fun c6 => ?_) (fun c6 => ?_)
  · skip
    have hge : 4 ≤ k := (nI_leI (by decide) (by omega)).mp c6
    refine lv_iconst (v := (-1)) hx hb dX2_find_61 (by first | decide | rfl) ?_
    exact W.iret hx hb hr (fh_qi () (Or.inr ⟨rfl, fun j hj => hno j (by omega)⟩) hP hK hD hS) hS.2.2 dX2_find_62
  · skip
    have hlt : k < 4 := Nat.lt_of_not_le (fun h => c6 (nI_le h (by omega)))
    refine lv_aload_n hx hb dX2_find_9 rfl (lv_at hl 0 rfl) ?_
    refine va_get (D := (dC, dI)) (ci := 2) (v := .ref (a 7)) (C := RX2) (T := TX2) (N := 13) hx hb hts (by decide +kernel) hown hK hP 0 rfl rfl 7 (by decide) (hts (.fieldLink RX2 29 "FragmentHouseModel" "there" "[Z") (by decide +kernel)) (fun _ h9 => h9) rfl dX2_find_10 ?_
    refine lv_iload hx hb dX2_find_13 (lv_at hl 4 rfl) ?_
    refine fh_zald (k := k) hx hb hK hP 7 2 rfl rfl hlt (by first | decide | omega) dX2_find_15 ?_
    refine lv_if_eq (tgt := 55) hx hb dX2_find_16 (by decide) (fun c16 => ?_) (fun c16 => ?_)
    · skip
      refine lv_iinc (v := (nI (k + 1))) (lv' := [(4, .int (nI (k + 1))), (0, .ref (a 0)), (1, .int p1), (2, .int p2), (3, .int p3)]) hx hb dX2_find_55 hl (k := 4) rfl (nI_1 k) (by decide) rfl (fun ls hl => ?_)
      refine lv_goto (tgt := 3) hx hb dX2_find_58 (by decide) ?_
      exact ih (k + 1) _ _ _ ⟨hlt, lt_s hno (fun z => absurd c16 z), hP, hD, hS, lv_sub hl [1, 2, 3, 4, 0] rfl⟩ (by show 4 - (k + 1) < 4 - k; omega)
    · skip
      refine lv_aload_n hx hb dX2_find_19 rfl (lv_at hl 0 rfl) ?_
      refine va_get (D := (dC, dI)) (ci := 2) (v := .ref (a 2)) (C := RX2) (T := TX2) (N := 13) hx hb hts (by decide +kernel) hown hK hP 0 rfl rfl 2 (by decide) (hts (.fieldLink RX2 13 "FragmentHouseModel" "senders" "[I") (by decide +kernel)) (fun _ h9 => h9) rfl dX2_find_20 ?_
      refine lv_iload hx hb dX2_find_23 (lv_at hl 4 rfl) ?_
      refine fh_iald (k := k) hx hb hK hP 2 0 rfl rfl hlt (by first | decide | omega) dX2_find_25 ?_
      refine lv_iload_n hx hb dX2_find_26 rfl (lv_at hl 1 rfl) ?_
      refine lv_icmp_ne (tgt := 55) hx hb dX2_find_27 (by decide) (fun c27 => ?_) (fun c27 => ?_)
      · skip
        refine lv_iinc (v := (nI (k + 1))) (lv' := [(4, .int (nI (k + 1))), (0, .ref (a 0)), (1, .int p1), (2, .int p2), (3, .int p3)]) hx hb dX2_find_55 hl (k := 4) rfl (nI_1 k) (by decide) rfl (fun ls hl => ?_)
        refine lv_goto (tgt := 3) hx hb dX2_find_58 (by decide) ?_
        exact ih (k + 1) _ _ _ ⟨hlt, lt_s hno (fun _ z => c27 z.1), hP, hD, hS, lv_sub hl [1, 2, 3, 4, 0] rfl⟩ (by show 4 - (k + 1) < 4 - k; omega)
      · skip
        refine lv_aload_n hx hb dX2_find_30 rfl (lv_at hl 0 rfl) ?_
        refine va_get (D := (dC, dI)) (ci := 2) (v := .ref (a 3)) (C := RX2) (T := TX2) (N := 13) hx hb hts (by decide +kernel) hown hK hP 0 rfl rfl 3 (by decide) (hts (.fieldLink RX2 17 "FragmentHouseModel" "identifications" "[I") (by decide +kernel)) (fun _ h9 => h9) rfl dX2_find_31 ?_
        refine lv_iload hx hb dX2_find_34 (lv_at hl 4 rfl) ?_
        refine fh_iald (k := k) hx hb hK hP 3 0 rfl rfl hlt (by first | decide | omega) dX2_find_36 ?_
        refine lv_iload_n hx hb dX2_find_37 rfl (lv_at hl 2 rfl) ?_
        refine lv_icmp_ne (tgt := 55) hx hb dX2_find_38 (by decide) (fun c38 => ?_) (fun c38 => ?_)
        · skip
          refine lv_iinc (v := (nI (k + 1))) (lv' := [(4, .int (nI (k + 1))), (0, .ref (a 0)), (1, .int p1), (2, .int p2), (3, .int p3)]) hx hb dX2_find_55 hl (k := 4) rfl (nI_1 k) (by decide) rfl (fun ls hl => ?_)
          refine lv_goto (tgt := 3) hx hb dX2_find_58 (by decide) ?_
          exact ih (k + 1) _ _ _ ⟨hlt, lt_s hno (fun _ z => c38 z.2.1), hP, hD, hS, lv_sub hl [1, 2, 3, 4, 0] rfl⟩ (by show 4 - (k + 1) < 4 - k; omega)
        · skip
          refine lv_aload_n hx hb dX2_find_41 rfl (lv_at hl 0 rfl) ?_
          refine va_get (D := (dC, dI)) (ci := 2) (v := .ref (a 4)) (C := RX2) (T := TX2) (N := 13) hx hb hts (by decide +kernel) hown hK hP 0 rfl rfl 4 (by decide) (hts (.fieldLink RX2 20 "FragmentHouseModel" "protocols" "[I") (by decide +kernel)) (fun _ h9 => h9) rfl dX2_find_42 ?_
          refine lv_iload hx hb dX2_find_45 (lv_at hl 4 rfl) ?_
          refine fh_iald (k := k) hx hb hK hP 4 0 rfl rfl hlt (by first | decide | omega) dX2_find_47 ?_
          refine lv_iload_n hx hb dX2_find_48 rfl (lv_at hl 3 rfl) ?_
          refine lv_icmp_ne (tgt := 55) hx hb dX2_find_49 (by decide) (fun c49 => ?_) (fun c49 => ?_)
          · skip
            refine lv_iinc (v := (nI (k + 1))) (lv' := [(4, .int (nI (k + 1))), (0, .ref (a 0)), (1, .int p1), (2, .int p2), (3, .int p3)]) hx hb dX2_find_55 hl (k := 4) rfl (nI_1 k) (by decide) rfl (fun ls hl => ?_)
            refine lv_goto (tgt := 3) hx hb dX2_find_58 (by decide) ?_
            exact ih (k + 1) _ _ _ ⟨hlt, lt_s hno (fun _ z => c49 z.2.2), hP, hD, hS, lv_sub hl [1, 2, 3, 4, 0] rfl⟩ (by show 4 - (k + 1) < 4 - k; omega)
          · skip
            refine lv_iload hx hb dX2_find_52 (lv_at hl 4 rfl) ?_
            exact W.iret hx hb hr (fh_qi () (Or.inl ⟨k, hlt, rfl, c16, c27, c38, c49⟩) hP hK hD hS) hS.2.2 dX2_find_54
set_option maxHeartbeats 4000000 in
set_option maxRecDepth 100000 in
/-- begin -/
theorem m_begin (l : Launch) (dC : Nat → ClassId) (dI : Nat → Nat → Nat) (cI cB cZ : ClassId) (a : Nat → Nat) (T se id pr en be th bs wh : Nat → Int32) (n len md nw : Int32) (p1 p2 p3 : Int32) (sz : Nat)  : Met l yX2_begin wsX2_begin ({ frames := 0, cells := 0, slots := 0, locals := 0 }) (va_Pc [.ref (a 0), .int p1, .int p2, .int p3] (PW (dC, dI) vwCl [(cI, .int), (cB, .byte), (cZ, .boolean)] (wM cI cB cZ a T se id pr en be th bs wh n len md nw) sz)) (va_Qi (S := S7) (fun r u => (∃ k, k < 4 ∧ r = nI k ∧ th k = 0 ∧ u = bgM se id pr en be th bs p1 p2 p3 nw k) ∨ (r = -1 ∧ (∀ k, k < 4 → th k ≠ 0) ∧ u = (se, id, pr, en, be, th, bs))) (QW (dC, dI) vwCl (fun _ => [(cI, .int), (cB, .byte), (cZ, .boolean)]) (va_A (wM cI cB cZ a T se id pr en be th bs wh n len md nw) sz) (fun u => wM cI cB cZ a T u.1 u.2.1 u.2.2.1 u.2.2.2.1 u.2.2.2.2.1 u.2.2.2.2.2.1 u.2.2.2.2.2.2 wh n len md nw)) (va_A (wM cI cB cZ a T se id pr en be th bs wh n len md nw) sz)) 0 0 (va_A (wM cI cB cZ a T se id pr en be th bs wh n len md nw) sz) := by
  refine Met.ofW (cc := cX2_begin) (maxL := 6) (ret := (some .int)) (by decide) rfl ?_
  intro p e s m args below meth c s₁ B hml hv
  obtain ⟨rfl, hsz, hP, hK, hD0⟩ := hv
  have hx := B.exec
  have hb := B.bytes
  have hr := B.returns
  have hts := atoms_spec (ws := wsX2_begin) B.pre
  have hown : s.vm.findClass RX2 = some m.cls := findClass_of_methodNamed B.named
  have hlocks := B.notSynchronized
  subst hsz
  have hD := hD0.self (sz := s.heap.size)
  generalize hAe : va_A (wM cI cB cZ a T se id pr en be th bs wh n len md nw) s.heap.size = A at hD ⊢
  have hA : ∀ q : Nat, s.heap.size ≤ q → A q := fun q h => by rw [← hAe]; exact Or.inr h
  have hS : va_S A s.heap s.heap [] := va_S.rf
  have hl := lv_entry ([.ref (a 0), .int p1, .int p2, .int p3]) (n := 6) (Nat.le_of_ble_eq_true rfl)
  rw [lg_entry_eq]
  generalize (lg_sl ([.ref (a 0), .int p1, .int p2, .int p3]) ++ List.replicate (6 - (lg_sl ([.ref (a 0), .int p1, .int p2, .int p3])).length) Slot.unset).toArray = ls at hl ⊢
  have hl : lv_has ls 6 [(0, .ref (a 0)), (1, .int p1), (2, .int p2), (3, .int p3)] := hl
  refine fh_start (fun H hH => ?_)
  have hP : va_P (dC, dI) vwCl (wM cI cB cZ a T se id pr en be th bs wh n len md nw) H := by rw [hH]; exact hP
  have hS : va_S A s.heap H [] := by rw [hH]; exact va_S.rf
  refine lv_iconst (v := nI 0) hx hb dX2_begin_0 (by first | decide | rfl) ?_
  refine lv_istore (lv' := [(4, .int (nI 0)), (0, .ref (a 0)), (1, .int p1), (2, .int p2), (3, .int p3)]) hx hb dX2_begin_1 hl (by decide) rfl (fun ls hl => ?_)
  refine fh_loop (σ := Nat) (fun q9 H locs ls => (q9 ≤ 4) ∧ (∀ j, j < q9 → th j ≠ 0) ∧ va_P (dC, dI) vwCl (wM cI cB cZ a T se id pr en be th bs wh n len md nw) H ∧ va_D A (wM cI cB cZ a T se id pr en be th bs wh n len md nw) ∧ va_S A s.heap H locs ∧ lv_has ls 6 [(0, .ref (a 0)), (1, .int p1), (2, .int p2), (3, .int p3), (4, .int (nI q9))]) (fun q9 => 4 - q9) ?_ (0) ⟨Nat.zero_le _, fun j h => absurd h (Nat.not_lt_zero _), hP, hD, hS, lv_sub hl [1, 2, 3, 4, 0] rfl⟩
  intro q9 H locs ls hI ih
  obtain ⟨k, rfl⟩ : ∃ z, z = q9 := ⟨_, rfl⟩
  obtain ⟨hk, hno, hP, hD, hS, hl⟩ : (k ≤ 4) ∧ (∀ j, j < k → th j ≠ 0) ∧ va_P (dC, dI) vwCl (wM cI cB cZ a T se id pr en be th bs wh n len md nw) H ∧ va_D A (wM cI cB cZ a T se id pr en be th bs wh n len md nw) ∧ va_S A s.heap H locs ∧ lv_has ls 6 [(0, .ref (a 0)), (1, .int p1), (2, .int p2), (3, .int p3), (4, .int (nI k))] := hI
  refine lv_iload hx hb dX2_begin_3 (lv_at hl 4 rfl) ?_
  refine lv_iconst (v := nI 4) hx hb dX2_begin_5 (by first | decide | rfl) ?_
  refine lv_icmp_ge (tgt := 111) hx hb dX2_begin_6 (by decide) (fun c6 => ?_) (fun c6 => ?_)
  · skip
    have hge : 4 ≤ k := (nI_leI (by decide) (by omega)).mp c6
    refine lv_iconst (v := (-1)) hx hb dX2_begin_111 (by first | decide | rfl) ?_
    exact W.iret hx hb hr (fh_qi (se, id, pr, en, be, th, bs) (Or.inr ⟨rfl, fun j hj => hno j (by omega), rfl⟩) hP hK hD hS) hS.2.2 dX2_begin_112
  · skip
    have hlt : k < 4 := Nat.lt_of_not_le (fun h => c6 (nI_le h (by omega)))
    refine lv_aload_n hx hb dX2_begin_9 rfl (lv_at hl 0 rfl) ?_
    refine va_get (D := (dC, dI)) (ci := 2) (v := .ref (a 7)) (C := RX2) (T := TX2) (N := 13) hx hb hts (by decide +kernel) hown hK hP 0 rfl rfl 7 (by decide) (hts (.fieldLink RX2 29 "FragmentHouseModel" "there" "[Z") (by decide +kernel)) (fun _ h9 => h9) rfl dX2_begin_10 ?_
    refine lv_iload hx hb dX2_begin_13 (lv_at hl 4 rfl) ?_
    refine fh_zald (k := k) hx hb hK hP 7 2 rfl rfl hlt (by first | decide | omega) dX2_begin_15 ?_
    refine lv_if_ne (tgt := 105) hx hb dX2_begin_16 (by decide) (fun c16 => ?_) (fun c16 => ?_)
    · skip
      refine lv_iinc (v := (nI (k + 1))) (lv' := [(4, .int (nI (k + 1))), (0, .ref (a 0)), (1, .int p1), (2, .int p2), (3, .int p3)]) hx hb dX2_begin_105 hl (k := 4) rfl (nI_1 k) (by decide) rfl (fun ls hl => ?_)
      refine lv_goto (tgt := 3) hx hb dX2_begin_108 (by decide) ?_
      exact ih (k + 1) _ _ _ ⟨hlt, lt_s hno c16, hP, hD, hS, lv_sub hl [1, 2, 3, 4, 0] rfl⟩ (by show 4 - (k + 1) < 4 - k; omega)
    · skip
      refine lv_aload_n hx hb dX2_begin_19 rfl (lv_at hl 0 rfl) ?_
      refine va_get (D := (dC, dI)) (ci := 2) (v := .ref (a 7)) (C := RX2) (T := TX2) (N := 13) hx hb hts (by decide +kernel) hown hK hP 0 rfl rfl 7 (by decide) (hts (.fieldLink RX2 29 "FragmentHouseModel" "there" "[Z") (by decide +kernel)) (fun _ h9 => h9) rfl dX2_begin_20 ?_
      refine lv_iload hx hb dX2_begin_23 (lv_at hl 4 rfl) ?_
      refine lv_iconst (v := 1) hx hb dX2_begin_25 (by first | decide | rfl) ?_
      refine fh_zast (k := k) hx hb hK hP hD hS 7 2 rfl rfl rfl hlt (by first | decide | omega) dX2_begin_26 (fun H locs hP hD hS => ?_)
      have hP : va_P (dC, dI) vwCl (wM cI cB cZ a T se id pr en be (upd th k 1) bs wh n len md nw) H := hP
      have hD : va_D A (wM cI cB cZ a T se id pr en be (upd th k 1) bs wh n len md nw) := hD
      refine lv_aload_n hx hb dX2_begin_27 rfl (lv_at hl 0 rfl) ?_
      refine va_get (D := (dC, dI)) (ci := 2) (v := .ref (a 2)) (C := RX2) (T := TX2) (N := 13) hx hb hts (by decide +kernel) hown hK hP 0 rfl rfl 2 (by decide) (hts (.fieldLink RX2 13 "FragmentHouseModel" "senders" "[I") (by decide +kernel)) (fun _ h9 => h9) rfl dX2_begin_28 ?_
      refine lv_iload hx hb dX2_begin_31 (lv_at hl 4 rfl) ?_
      refine lv_iload_n hx hb dX2_begin_33 rfl (lv_at hl 1 rfl) ?_
      refine fh_iast (k := k) hx hb hK hP hD hS 2 0 rfl rfl hlt (by first | decide | omega) dX2_begin_34 (fun H locs hP hD hS => ?_)
      have hP : va_P (dC, dI) vwCl (wM cI cB cZ a T (upd se k p1) id pr en be (upd th k 1) bs wh n len md nw) H := hP
      have hD : va_D A (wM cI cB cZ a T (upd se k p1) id pr en be (upd th k 1) bs wh n len md nw) := hD
      refine lv_aload_n hx hb dX2_begin_35 rfl (lv_at hl 0 rfl) ?_
      refine va_get (D := (dC, dI)) (ci := 2) (v := .ref (a 3)) (C := RX2) (T := TX2) (N := 13) hx hb hts (by decide +kernel) hown hK hP 0 rfl rfl 3 (by decide) (hts (.fieldLink RX2 17 "FragmentHouseModel" "identifications" "[I") (by decide +kernel)) (fun _ h9 => h9) rfl dX2_begin_36 ?_
      refine lv_iload hx hb dX2_begin_39 (lv_at hl 4 rfl) ?_
      refine lv_iload_n hx hb dX2_begin_41 rfl (lv_at hl 2 rfl) ?_
      refine fh_iast (k := k) hx hb hK hP hD hS 3 0 rfl rfl hlt (by first | decide | omega) dX2_begin_42 (fun H locs hP hD hS => ?_)
      have hP : va_P (dC, dI) vwCl (wM cI cB cZ a T (upd se k p1) (upd id k p2) pr en be (upd th k 1) bs wh n len md nw) H := hP
      have hD : va_D A (wM cI cB cZ a T (upd se k p1) (upd id k p2) pr en be (upd th k 1) bs wh n len md nw) := hD
      refine lv_aload_n hx hb dX2_begin_43 rfl (lv_at hl 0 rfl) ?_
      refine va_get (D := (dC, dI)) (ci := 2) (v := .ref (a 4)) (C := RX2) (T := TX2) (N := 13) hx hb hts (by decide +kernel) hown hK hP 0 rfl rfl 4 (by decide) (hts (.fieldLink RX2 20 "FragmentHouseModel" "protocols" "[I") (by decide +kernel)) (fun _ h9 => h9) rfl dX2_begin_44 ?_
      refine lv_iload hx hb dX2_begin_47 (lv_at hl 4 rfl) ?_
      refine lv_iload_n hx hb dX2_begin_49 rfl (lv_at hl 3 rfl) ?_
      refine fh_iast (k := k) hx hb hK hP hD hS 4 0 rfl rfl hlt (by first | decide | omega) dX2_begin_50 (fun H locs hP hD hS => ?_)
      have hP : va_P (dC, dI) vwCl (wM cI cB cZ a T (upd se k p1) (upd id k p2) (upd pr k p3) en be (upd th k 1) bs wh n len md nw) H := hP
      have hD : va_D A (wM cI cB cZ a T (upd se k p1) (upd id k p2) (upd pr k p3) en be (upd th k 1) bs wh n len md nw) := hD
      refine lv_aload_n hx hb dX2_begin_51 rfl (lv_at hl 0 rfl) ?_
      refine va_get (D := (dC, dI)) (ci := 2) (v := .ref (a 5)) (C := RX2) (T := TX2) (N := 13) hx hb hts (by decide +kernel) hown hK hP 0 rfl rfl 5 (by decide) (hts (.fieldLink RX2 23 "FragmentHouseModel" "ends" "[I") (by decide +kernel)) (fun _ h9 => h9) rfl dX2_begin_52 ?_
      refine lv_iload hx hb dX2_begin_55 (lv_at hl 4 rfl) ?_
      refine lv_iconst (v := (-1)) hx hb dX2_begin_57 (by first | decide | rfl) ?_
      refine fh_iast (k := k) hx hb hK hP hD hS 5 0 rfl rfl hlt (by first | decide | omega) dX2_begin_58 (fun H locs hP hD hS => ?_)
      have hP : va_P (dC, dI) vwCl (wM cI cB cZ a T (upd se k p1) (upd id k p2) (upd pr k p3) (upd en k (((-1)))) be (upd th k 1) bs wh n len md nw) H := hP
      have hD : va_D A (wM cI cB cZ a T (upd se k p1) (upd id k p2) (upd pr k p3) (upd en k (((-1)))) be (upd th k 1) bs wh n len md nw) := hD
      refine lv_aload_n hx hb dX2_begin_59 rfl (lv_at hl 0 rfl) ?_
      refine va_get (D := (dC, dI)) (ci := 2) (v := .ref (a 6)) (C := RX2) (T := TX2) (N := 13) hx hb hts (by decide +kernel) hown hK hP 0 rfl rfl 6 (by decide) (hts (.fieldLink RX2 26 "FragmentHouseModel" "begun" "[I") (by decide +kernel)) (fun _ h9 => h9) rfl dX2_begin_60 ?_
      refine lv_iload hx hb dX2_begin_63 (lv_at hl 4 rfl) ?_
      refine lv_aload_n hx hb dX2_begin_65 rfl (lv_at hl 0 rfl) ?_
      refine va_get (D := (dC, dI)) (ci := 2) (v := .int nw) (C := RX2) (T := TX2) (N := 13) hx hb hts (by decide +kernel) hown hK hP 0 rfl rfl 12 (by decide) (hts (.fieldLink RX2 50 "FragmentHouseModel" "now" "I") (by decide +kernel)) (fun _ h9 => h9) rfl dX2_begin_66 ?_
      refine fh_iast (k := k) hx hb hK hP hD hS 6 0 rfl rfl hlt (by first | decide | omega) dX2_begin_69 (fun H locs hP hD hS => ?_)
      have hP : va_P (dC, dI) vwCl (wM cI cB cZ a T (upd se k p1) (upd id k p2) (upd pr k p3) (upd en k (((-1)))) (upd be k nw) (upd th k 1) bs wh n len md nw) H := hP
      have hD : va_D A (wM cI cB cZ a T (upd se k p1) (upd id k p2) (upd pr k p3) (upd en k (((-1)))) (upd be k nw) (upd th k 1) bs wh n len md nw) := hD
      refine lv_iconst (v := nI 0) hx hb dX2_begin_70 (by first | decide | rfl) ?_
      refine lv_istore (lv' := [(5, .int (nI 0)), (0, .ref (a 0)), (1, .int p1), (2, .int p2), (3, .int p3), (4, .int (nI k))]) hx hb dX2_begin_71 hl (by decide) rfl (fun ls hl => ?_)
      have hP : va_P (dC, dI) vwCl (wM cI cB cZ a T (upd se k p1) (upd id k p2) (upd pr k p3) (upd en k (-1)) (upd be k nw) (upd th k 1) (wrT bs (k * 4096) 0 (fun _ => 0)) wh n len md nw) H := by rw [wr_0]; exact hP
      have hD : va_D A (wM cI cB cZ a T (upd se k p1) (upd id k p2) (upd pr k p3) (upd en k (-1)) (upd be k nw) (upd th k 1) (wrT bs (k * 4096) 0 (fun _ => 0)) wh n len md nw) := by rw [wr_0]; exact hD
      refine fh_loop (σ := Nat) (fun q9 H locs ls => (q9 ≤ 4096) ∧ va_P (dC, dI) vwCl (wM cI cB cZ a T (upd se k p1) (upd id k p2) (upd pr k p3) (upd en k (-1)) (upd be k nw) (upd th k 1) (wrT bs (k * 4096) q9 (fun _ => 0)) wh n len md nw) H ∧ va_D A (wM cI cB cZ a T (upd se k p1) (upd id k p2) (upd pr k p3) (upd en k (-1)) (upd be k nw) (upd th k 1) (wrT bs (k * 4096) q9 (fun _ => 0)) wh n len md nw) ∧ va_S A s.heap H locs ∧ lv_has ls 6 [(0, .ref (a 0)), (1, .int p1), (2, .int p2), (3, .int p3), (4, .int (nI k)), (5, .int (nI q9))]) (fun q9 => 4096 - q9) ?_ (0) ⟨Nat.zero_le _, hP, hD, hS, lv_sub hl [1, 2, 3, 4, 5, 0] rfl⟩
      intro q9 H locs ls hI ih
      obtain ⟨i, rfl⟩ : ∃ z, z = q9 := ⟨_, rfl⟩
      obtain ⟨hi, hP, hD, hS, hl⟩ : (i ≤ 4096) ∧ va_P (dC, dI) vwCl (wM cI cB cZ a T (upd se k p1) (upd id k p2) (upd pr k p3) (upd en k (-1)) (upd be k nw) (upd th k 1) (wrT bs (k * 4096) i (fun _ => 0)) wh n len md nw) H ∧ va_D A (wM cI cB cZ a T (upd se k p1) (upd id k p2) (upd pr k p3) (upd en k (-1)) (upd be k nw) (upd th k 1) (wrT bs (k * 4096) i (fun _ => 0)) wh n len md nw) ∧ va_S A s.heap H locs ∧ lv_has ls 6 [(0, .ref (a 0)), (1, .int p1), (2, .int p2), (3, .int p3), (4, .int (nI k)), (5, .int (nI i))] := hI
      refine lv_iload hx hb dX2_begin_73 (lv_at hl 5 rfl) ?_
      refine lv_sipush (v := nI 4096) hx hb dX2_begin_75 (by first | decide | rfl) ?_
      refine lv_icmp_ge (tgt := 102) hx hb dX2_begin_78 (by decide) (fun c78 => ?_) (fun c78 => ?_)
      · skip
        refine lv_iload hx hb dX2_begin_102 (lv_at hl 4 rfl) ?_
        obtain rfl : i = 4096 := Nat.le_antisymm hi ((nI_leI (by decide) (by omega)).mp c78)
        exact W.iret hx hb hr (fh_qi (bgM se id pr en be th bs p1 p2 p3 nw k) (Or.inl ⟨k, hlt, rfl, c16, rfl⟩) hP hK hD hS) hS.2.2 dX2_begin_104
      · skip
        have hli : i < 4096 := Nat.lt_of_not_le (fun h => c78 (nI_le h (by omega)))
        refine lv_aload_n hx hb dX2_begin_81 rfl (lv_at hl 0 rfl) ?_
        refine va_get (D := (dC, dI)) (ci := 2) (v := .ref (a 8)) (C := RX2) (T := TX2) (N := 13) hx hb hts (by decide +kernel) hown hK hP 0 rfl rfl 8 (by decide) (hts (.fieldLink RX2 33 "FragmentHouseModel" "bytes" "[I") (by decide +kernel)) (fun _ h9 => h9) rfl dX2_begin_82 ?_
        refine lv_iload hx hb dX2_begin_85 (lv_at hl 4 rfl) ?_
        refine lv_sipush (v := nI 4096) hx hb dX2_begin_87 (by first | decide | rfl) ?_
        refine lv_imul hx hb dX2_begin_90 ?_
        refine fh_top (y := nI (k * 4096)) (pk_mul k 4096) ?_
        refine lv_iload hx hb dX2_begin_91 (lv_at hl 5 rfl) ?_
        refine lv_iadd hx hb dX2_begin_93 ?_
        refine fh_top (y := nI (k * 4096 + i)) (nI_add (k * 4096) i) ?_
        refine lv_iconst (v := 0) hx hb dX2_begin_94 (by first | decide | rfl) ?_
        refine fh_iast (k := (k * 4096 + i)) hx hb hK hP hD hS 8 0 rfl rfl (by omega) (by first | decide | omega) dX2_begin_95 (fun H locs hP hD hS => ?_)
        have hP : va_P (dC, dI) vwCl (wM cI cB cZ a T (upd se k p1) (upd id k p2) (upd pr k p3) (upd en k (-1)) (upd be k nw) (upd th k 1) (upd ((wrT bs (k * 4096) i (fun _ => 0))) ((k * 4096 + i)) 0) wh n len md nw) H := hP
        have hD : va_D A (wM cI cB cZ a T (upd se k p1) (upd id k p2) (upd pr k p3) (upd en k (-1)) (upd be k nw) (upd th k 1) (upd ((wrT bs (k * 4096) i (fun _ => 0))) ((k * 4096 + i)) 0) wh n len md nw) := hD
        refine lv_iinc (v := (nI (i + 1))) (lv' := [(5, .int (nI (i + 1))), (0, .ref (a 0)), (1, .int p1), (2, .int p2), (3, .int p3), (4, .int (nI k))]) hx hb dX2_begin_96 hl (k := 5) rfl (nI_1 i) (by decide) rfl (fun ls hl => ?_)
        refine lv_goto (tgt := 73) hx hb dX2_begin_99 (by decide) ?_
        have hP : va_P (dC, dI) vwCl (wM cI cB cZ a T (upd se k p1) (upd id k p2) (upd pr k p3) (upd en k (-1)) (upd be k nw) (upd th k 1) (wrT bs (k * 4096) (i + 1) (fun _ => 0)) wh n len md nw) H := by rw [← wr_s]; exact hP
        have hD : va_D A (wM cI cB cZ a T (upd se k p1) (upd id k p2) (upd pr k p3) (upd en k (-1)) (upd be k nw) (upd th k 1) (wrT bs (k * 4096) (i + 1) (fun _ => 0)) wh n len md nw) := by rw [← wr_s]; exact hD
        exact ih (i + 1) _ _ _ ⟨hli, hP, hD, hS, lv_sub hl [1, 2, 3, 4, 5, 0] rfl⟩ (by show 4096 - (i + 1) < 4096 - i; omega)
