/-- all but the text's own numbers is as it was -/
def NX (u v : RS) : Prop := v.2.2 = u.2.2 ∧ ∀ k : Nat, k ≠ 4 → k ≠ 24 → k ≠ 25 → k ≠ 26 → v.1 k = u.1 k
theorem NX.rf (u : RS) : NX u u := ⟨rfl, fun _ _ _ _ _ => rfl⟩
theorem NX.tr {u v w : RS} (h : NX u v) (g : NX v w) : NX u w := ⟨g.1.trans h.1, fun k a b c d => (g.2 k a b c d).trans (h.2 k a b c d)⟩
theorem NX.sg {u v : RS} (h : NX u v) {k : Nat} {x : Int32} (hk : k = 4 ∨ k = 24 ∨ k = 25 ∨ k = 26) : NX u (sg v k x) := by
  refine ⟨h.1, fun j a b c d => ?_⟩
  have e : j ≠ k := by rcases hk with rfl | rfl | rfl | rfl <;> assumption
  exact (pk_un e).trans (h.2 j a b c d)
theorem NX.sw {u v : RS} (h : NX u v) {w : Int64} : NX u (sw v w) := h
theorem NX_MI {nB nS nK mi ln : Nat} {u v : RS} (h : NX u v) (hI : MI nB nS nK mi ln u) : MI nB nS nK mi ln v := by
  unfold MI at hI ⊢
  rw [h.1, h.2 17 (by decide) (by decide) (by decide) (by decide), h.2 40 (by decide) (by decide) (by decide) (by decide), h.2 44 (by decide) (by decide) (by decide) (by decide), h.2 18 (by decide) (by decide) (by decide) (by decide), h.2 2 (by decide) (by decide) (by decide) (by decide)]
  exact hI
theorem next1_all {zt : Nat} : ∀ (n : Nat) (u : RS), TI zt u → TI zt (lp_next1 n u) ∧ NX u (lp_next1 n u) ∧ ∃ i j : Nat, u.1 4 = nI i ∧ (lp_next1 n u).1 4 = nI j ∧ i ≤ j ∧ j ≤ zt := by
  intro n
  induction n with
  | zero => intro u h; obtain ⟨i, ei, hi⟩ := h.2; exact ⟨h, NX.rf u, i, i, ei, ei, Nat.le_refl _, hi⟩
  | succ n ih =>
    intro u h
    obtain ⟨i, ei, hi⟩ := h.2
    have go : ¬ f_peek u = -1 → TI zt (lp_next1 n (sg u 4 (u.1 4 + 1))) ∧ NX u (lp_next1 n (sg u 4 (u.1 4 + 1))) ∧ ∃ i j : Nat, u.1 4 = nI i ∧ (lp_next1 n (sg u 4 (u.1 4 + 1))).1 4 = nI j ∧ i ≤ j ∧ j ≤ zt := by
      intro hp
      have hlt := peek_lt h.1.1 h.1.2 ei hi hp
      have e1 : u.1 4 + 1 = nI (i + 1) := by rw [ei]; exact nI_1 _
      obtain ⟨a, b, i2, j, f1, f2, f3, f4⟩ := ih (sg u 4 (u.1 4 + 1)) (TI_4 (i := i + 1) h e1 (by omega))
      refine ⟨a, (NX.sg (NX.rf u) (Or.inl rfl)).tr b, i, j, ei, f2, ?_, f4⟩
      have f1' : upd u.1 4 (u.1 4 + 1) 4 = nI i2 := f1
      rw [pk_us, e1, nI_eq (by have := h.1.2; omega) (by have := h.1.2; omega)] at f1'
      omega
    rw [lp_next1_s]
    by_cases c1 : f_peek u = 32
    · rw [if_pos c1]; exact go (by rw [c1]; decide)
    · rw [if_neg c1]
      by_cases c2 : f_peek u = 10
      · rw [if_pos c2]; exact go (by rw [c2]; decide)
      · rw [if_neg c2]; exact ⟨h, NX.rf u, i, i, ei, ei, Nat.le_refl _, hi⟩
/-- the number of the digits that were read -/
def numOK (q : Nat) (v : Int32) : Prop := ∃ w : Nat, w < 10 ^ min q 4 ∧ v = nI w
theorem dig_step {q : Nat} {v p : Int32} {u : RS} (h : numOK q v) (hq : q < 4) (hd : ¬ f_isDigit u p = 0) : numOK (q + 1) (10 * v + p - 48) := by
  obtain ⟨w, hw, rfl⟩ := h
  rw [f_isDigit_s] at hd
  by_cases c1 : p < 48
  · rw [if_pos c1] at hd; exact absurd rfl hd
  rw [if_neg c1] at hd
  by_cases c2 : 57 < p
  · rw [if_pos c2] at hd; exact absurd rfl hd
  have e1 : (48 : Int32) = nI 48 := rfl
  have e2 : (57 : Int32) = nI 57 := rfl
  have hp0 : ¬ p < 0 := by
    intro h9
    refine c1 ?_
    rw [Int32.lt_iff_toInt_lt] at h9 ⊢
    have : (0 : Int32).toInt = 0 := rfl
    have : (48 : Int32).toInt = 48 := rfl
    omega
  obtain ⟨j, hj, rfl⟩ := nI_of hp0
  rw [e1, nI_ltI hj (by decide)] at c1
  rw [e2, nI_ltI (by decide) hj] at c2
  have e3 : (10 : Int32) * nI w + nI j - 48 = nI (10 * w + j - 48) := by
    have e4 : (10 : Int32) * nI w + nI j = nI (10 * w + j) := by rw [← nI_add, ← pk_mul]; rfl
    rw [e4, e1, pk_sub (by omega)]
  rw [e3]
  have m1 : min q 4 = q := by omega
  have m2 : min (q + 1) 4 = q + 1 := by omega
  refine ⟨10 * w + j - 48, ?_, rfl⟩
  rw [m1] at hw
  rw [m2, Nat.pow_succ]
  omega
theorem next4_ok {zt : Nat} {u : RS} {q : Nat} (h : TI zt u) : TI zt (jn_next4 u q) ∧ NX u (jn_next4 u q) ∧ (jn_next4 u q).1 = u.1 ∧ f_peek (jn_next4 u q) = f_peek u := by
  rw [jn_next4_s]
  split
  · exact ⟨h, NX.rf u, rfl, rfl⟩
  · exact ⟨h, NX.rf u, rfl, rfl⟩
theorem next5_ok {zt : Nat} {u : RS} {q : Nat} (h : TI zt u) : TI zt (jn_next5 q u) ∧ NX u (jn_next5 q u) ∧ (jn_next5 q u).1 4 = u.1 4 ∧ (jn_next5 q u).1 26 = if 4 ≤ nI q then u.1 26 else 10 * u.1 26 + f_peek u - 48 := by
  rw [jn_next5_s]
  split
  · exact ⟨h, NX.rf u, rfl, rfl⟩
  · exact ⟨TI_sg h (by decide), NX.sg (NX.rf u) (by decide), rfl, rfl⟩
def NR (zt : Nat) (sm : Int32) (u : RS) (x3 : Int32) (q n : Nat) (r : RS × Int32 × Nat) : Prop :=
  TI zt r.1 ∧ NX u r.1 ∧ (∃ i j : Nat, u.1 4 = nI i ∧ r.1.1 4 = nI j ∧ i ≤ j ∧ j ≤ zt ∧ (0 < n → ¬ (f_isSmall u (f_peek u) = 0 ∧ f_isDigit u (f_peek u) = 0) → i < j)) ∧ r.2.2 ≤ q + n ∧ (sm = 0 → (¬ x3 = 0 → numOK q (u.1 26)) → ¬ r.2.1 = 0 → numOK r.2.2 (r.1.1 26))
theorem next2_all {zt : Nat} (u1 : RS) : ∀ (n : Nat) (u2 : RS) (x3 : Int32) (q : Nat), q + n < 1000 → TI zt u2 → NR zt (f_isSmall (sg u1 25 (u1.1 4)) (f_peek (sg u1 25 (u1.1 4)))) u2 x3 q n (lp_next2 u1 n u2 x3 q) := by
  intro n
  induction n with
  | zero =>
    intro u2 x3 q _ h
    obtain ⟨i, ei, hi⟩ := h.2
    exact ⟨h, NX.rf u2, ⟨i, i, ei, ei, Nat.le_refl _, hi, fun h9 => absurd h9 (Nat.lt_irrefl 0)⟩, Nat.le_refl _, fun _ a b => a b⟩
  | succ n ih =>
    intro u2 x3 q hq h
    obtain ⟨i, ei, hi⟩ := h.2
    have go : ¬ (f_isSmall u2 (f_peek u2) = 0 ∧ f_isDigit u2 (f_peek u2) = 0) → NR zt (f_isSmall (sg u1 25 (u1.1 4)) (f_peek (sg u1 25 (u1.1 4)))) u2 x3 q (n + 1) (lp_next2 u1 n (sg (jn_next5 q (jn_next4 u2 q)) 4 (((jn_next5 q (jn_next4 u2 q)).1 4) + 1)) (jn_next3 u1 x3 u2) (q + 1)) := by
      intro hc
      have hp : ¬ f_peek u2 = -1 := fun e9 => hc ⟨by rw [e9, f_isSmall_s]; decide, by rw [e9, f_isDigit_s]; decide⟩
      have hlt := peek_lt h.1.1 h.1.2 ei hi hp
      obtain ⟨t4, x4, g4, p4⟩ := next4_ok (q := q) h
      obtain ⟨t5, x5, g5, n5⟩ := next5_ok (q := q) t4
      have e4 : (jn_next5 q (jn_next4 u2 q)).1 4 = nI i := by rw [g5, g4]; exact ei
      have e1 : (jn_next5 q (jn_next4 u2 q)).1 4 + 1 = nI (i + 1) := by rw [e4]; exact nI_1 _
      obtain ⟨a1, a2, ⟨i2, j, b1, b2, b3, b5, b4⟩, a4, a5⟩ := ih (sg (jn_next5 q (jn_next4 u2 q)) 4 (((jn_next5 q (jn_next4 u2 q)).1 4) + 1)) (jn_next3 u1 x3 u2) (q + 1) (by omega) (TI_4 (i := i + 1) t5 e1 (by omega))
      have b1' : upd (jn_next5 q (jn_next4 u2 q)).1 4 ((jn_next5 q (jn_next4 u2 q)).1 4 + 1) 4 = nI i2 := b1
      have hz := h.1.2
      have hi2 : i2 < 2 ^ 31 := by omega
      rw [pk_us, e1, nI_eq (by omega) hi2] at b1'
      refine ⟨a1, (x4.tr (x5.tr (NX.sg (NX.rf _) (Or.inl rfl)))).tr a2, ⟨i, j, ei, b2, by omega, b5, fun _ _ => by omega⟩, by omega, ?_⟩
      intro hs hn hr
      refine a5 hs ?_ hr
      intro h3
      rw [jn_next3_s] at h3
      by_cases c3 : x3 = 0
      · rw [if_pos c3] at h3; exact absurd rfl h3
      rw [if_neg c3] at h3
      by_cases c4 : f_isSmall u2 (f_peek u2) = f_isSmall (sg u1 25 (u1.1 4)) (f_peek (sg u1 25 (u1.1 4)))
      · have hd : ¬ f_isDigit u2 (f_peek u2) = 0 := fun e9 => hc ⟨c4.trans hs, e9⟩
        have hn0 := hn c3
        show numOK (q + 1) (upd (jn_next5 q (jn_next4 u2 q)).1 4 ((jn_next5 q (jn_next4 u2 q)).1 4 + 1) 26)
        rw [pk_un (by decide), n5, p4, g4]
        by_cases c5 : (4 : Int32) ≤ nI q
        · rw [if_pos c5]
          have : 4 ≤ q := nleI (n := 4) rfl (by decide) (by omega) c5
          obtain ⟨w, hw, ew⟩ := hn0
          have m1 : min q 4 = 4 := by omega
          have m2 : min (q + 1) 4 = 4 := by omega
          exact ⟨w, by rw [m2]; rw [m1] at hw; exact hw, ew⟩
        · rw [if_neg c5]
          have : q < 4 := nltI (n := 4) rfl (by decide) (by omega) c5
          exact dig_step hn0 this hd
      · rw [if_neg c4] at h3; exact absurd rfl h3
    rw [lp_next2_s]
    by_cases c1 : f_isSmall u2 (f_peek u2) = 0
    · rw [if_pos c1]
      by_cases c2 : f_isDigit u2 (f_peek u2) = 0
      · rw [if_pos c2]
        exact ⟨h, NX.rf u2, ⟨i, i, ei, ei, Nat.le_refl _, hi, fun _ h9 => absurd ⟨c1, c2⟩ h9⟩, (show q ≤ q + (n + 1) by omega), fun _ a b => a b⟩
      · rw [if_neg c2]; exact go (fun h9 => c2 h9.2)
    · rw [if_neg c1]; exact go (fun h9 => c1 h9.1)

def NA (zt : Nat) (u v : RS) : Prop := TI zt v ∧ NX u v ∧ (∃ i j : Nat, u.1 4 = nI i ∧ v.1 4 = nI j ∧ i ≤ j ∧ j ≤ zt ∧ (¬ v.1 24 = 0 → i < j)) ∧ (v.1 24 = 2 → ixN (v.1 26) 10000)
theorem next6_ok {u : RS} {q : Nat} : (jn_next6 u q).1 = u.1 ∧ (jn_next6 u q).2.2 = u.2.2 := by
  rw [jn_next6_s]
  split
  · exact ⟨rfl, rfl⟩
  · exact ⟨rfl, rfl⟩
theorem next2_na {zt i : Nat} {u1 : RS} (h : TI zt u1) (ei : u1.1 4 = nI i) (hc : ¬ (f_isSmall (sg u1 25 (u1.1 4)) (f_peek (sg u1 25 (u1.1 4))) = 0 ∧ f_isDigit (sg u1 25 (u1.1 4)) (f_peek (sg u1 25 (u1.1 4))) = 0)) : NA zt u1 (jn_next2 u1 (sg u1 25 (u1.1 4))) := by
  have hT0 : TI zt (sg (sw (sg u1 25 (u1.1 4)) 0) 26 0) := TI_sg (TI_sw (TI_sg h (by decide))) (by decide)
  obtain ⟨a1, a2, ⟨i2, j, b1, b2, b3, b5, b4⟩, a4, a5⟩ := next2_all (zt := zt) u1 442 (sg (sw (sg u1 25 (u1.1 4)) 0) 26 0) 1 0 (by decide) hT0
  have hc2 : ¬ (f_isSmall (sg (sw (sg u1 25 (u1.1 4)) 0) 26 0) (f_peek (sg (sw (sg u1 25 (u1.1 4)) 0) 26 0)) = 0 ∧ f_isDigit (sg (sw (sg u1 25 (u1.1 4)) 0) 26 0) (f_peek (sg (sw (sg u1 25 (u1.1 4)) 0) 26 0)) = 0) := hc
  have hlt := b4 (by decide) hc2
  have b1' : u1.1 4 = nI i2 := b1
  have nx0 : NX u1 (sg (sw (sg u1 25 (u1.1 4)) 0) 26 0) := NX.sg (NX.sw (NX.sg (NX.rf u1) (by decide))) (by decide)
  have hz := h.1.2
  have key : ∀ t : Int32, (t = 2 → f_isSmall (sg u1 25 (u1.1 4)) (f_peek (sg u1 25 (u1.1 4))) = 0 ∧ ¬ (lp_next2 u1 442 (sg (sw (sg u1 25 (u1.1 4)) 0) 26 0) 1 0).2.1 = 0) → NA zt u1 (sg (jn_next6 (lp_next2 u1 442 (sg (sw (sg u1 25 (u1.1 4)) 0) 26 0) 1 0).1 (lp_next2 u1 442 (sg (sw (sg u1 25 (u1.1 4)) 0) 26 0) 1 0).2.2) 24 t) := by
    intro t ht
    obtain ⟨s1, s2⟩ := next6_ok (u := (lp_next2 u1 442 (sg (sw (sg u1 25 (u1.1 4)) 0) 26 0) 1 0).1) (q := (lp_next2 u1 442 (sg (sw (sg u1 25 (u1.1 4)) 0) 26 0) 1 0).2.2)
    generalize jn_next6 (lp_next2 u1 442 (sg (sw (sg u1 25 (u1.1 4)) 0) 26 0) 1 0).1 (lp_next2 u1 442 (sg (sw (sg u1 25 (u1.1 4)) 0) 26 0) 1 0).2.2 = v at s1 s2 ⊢
    have tv : TI zt v := by
      unfold TI; rw [s1]; exact a1
    have nv : NX u1 v := (nx0.tr a2).tr ⟨s2, fun k _ _ _ _ => by rw [s1]⟩
    refine ⟨TI_sg tv (by decide), NX.sg nv (by decide), ⟨i2, j, b1', ?_, b3, b5, fun _ => hlt⟩, ?_⟩
    · show upd v.1 24 t 4 = nI j
      rw [pk_un (by decide), s1]; exact b2
    · intro h2
      have h2' : upd v.1 24 t 24 = 2 := h2
      rw [pk_us] at h2'
      obtain ⟨q1, q2⟩ := ht h2'
      obtain ⟨w, hw, ew⟩ := a5 q1 (fun _ => ⟨0, by decide, rfl⟩) q2
      show ixN (upd v.1 24 t 26) 10000
      rw [pk_un (by decide), s1]
      refine ⟨w, ?_, ew⟩
      have m1 : 10 ^ min (lp_next2 u1 442 (sg (sw (sg u1 25 (u1.1 4)) 0) 26 0) 1 0).2.2 4 ≤ 10 ^ 4 := Nat.pow_le_pow_right (by decide) (Nat.min_le_right _ _)
      omega
  rw [jn_next2_s]
  by_cases c1 : (lp_next2 u1 442 (sg (sw (sg u1 25 (u1.1 4)) 0) 26 0) 1 0).2.1 = 0
  · rw [if_pos c1]; exact key 4 (fun e => absurd e (by decide))
  rw [if_neg c1]
  by_cases c2 : f_isSmall (sg u1 25 (u1.1 4)) (f_peek (sg u1 25 (u1.1 4))) = 0
  · rw [if_pos c2]
    split
    · first | exact key 2 (fun _ => ⟨c2, c1⟩) | (rw [if_pos c2]; exact key 2 (fun _ => ⟨c2, c1⟩))
    · exact key 4 (fun e => absurd e (by decide))
  · rw [if_neg c2]; first | exact key 1 (fun e => absurd e (by decide)) | (rw [if_neg c2]; exact key 1 (fun e => absurd e (by decide)))
theorem next_na {zt : Nat} {u : RS} (h : TI zt u) : NA zt u (f_next u) := by
  obtain ⟨t1, n1, i, j, ei, ej, hij, hj⟩ := next1_all 442 u h
  have hz := h.1.2
  have up : ∀ v : RS, NA zt (lp_next1 442 u) v → NA zt u v := by
    intro v hv
    obtain ⟨a1, a2, ⟨i2, j2, b1, b2, b3, b5, b4⟩, a4⟩ := hv
    have e : j = i2 := (nI_eq (by omega) (by omega)).mp (ej.symm.trans b1)
    exact ⟨a1, n1.tr a2, ⟨i, j2, ei, b2, by omega, b5, fun h9 => by have := b4 h9; omega⟩, a4⟩
  rw [f_next_s]
  generalize lp_next1 442 u = v at t1 n1 ej up ⊢
  have stop : ∀ w : RS, TI zt w → NX v w → w.1 4 = v.1 4 → NA zt v (sg w 24 0) := fun w tw nw e4 => ⟨TI_sg tw (by decide), NX.sg nw (by decide), ⟨j, j, ej, (show upd w.1 24 0 4 = nI j by rw [pk_un (by decide), e4]; exact ej), Nat.le_refl _, hj, fun h9 => absurd (show upd w.1 24 0 24 = 0 from pk_us) h9⟩, fun h9 => by
    have h9 : upd w.1 24 0 24 = 2 := h9
    rw [pk_us] at h9; exact absurd h9 (by decide)⟩
  have one : ∀ t : Int32, ¬ t = 2 → ¬ f_peek (sg v 25 (v.1 4)) = -1 → NA zt v (sg (sg (sg v 25 (v.1 4)) 24 t) 4 (v.1 4 + 1)) := by
    intro t ht hp
    have hp2 : ¬ f_peek v = -1 := hp
    have hlt := peek_lt t1.1.1 hz ej hj hp2
    have e1 : v.1 4 + 1 = nI (j + 1) := by rw [ej]; exact nI_1 _
    refine ⟨TI_4 (i := j + 1) (TI_sg (TI_sg t1 (by decide)) (by decide)) e1 (by omega), NX.sg (NX.sg (NX.sg (NX.rf v) (by decide)) (by decide)) (by decide), ⟨j, j + 1, ej, e1, by omega, by omega, fun _ => by omega⟩, fun h9 => absurd h9 ht⟩
  have blk : NA zt v (jn_next1 v (sg v 25 (v.1 4))) := by
    rw [jn_next1_s]
    by_cases c1 : 0 ≤ f_peek (sg v 25 (v.1 4))
    · rw [if_pos c1]
      have hp : ¬ f_peek (sg v 25 (v.1 4)) = -1 := fun e9 => by rw [e9] at c1; exact absurd c1 (by decide)
      by_cases c2 : f_isSmall (sg v 25 (v.1 4)) (f_peek (sg v 25 (v.1 4))) = 0
      · rw [if_pos c2]
        by_cases c3 : f_isDigit (sg v 25 (v.1 4)) (f_peek (sg v 25 (v.1 4))) = 0
        · rw [if_pos c3]
          split
          · exact one 3 (by decide) hp
          · exact one 4 (by decide) hp
        · rw [if_neg c3]; exact next2_na t1 ej (fun h9 => c3 h9.2)
      · rw [if_neg c2]; exact next2_na t1 ej (fun h9 => c2 h9.1)
    · rw [if_neg c1]; exact stop _ (TI_sg t1 (by decide)) (NX.sg (NX.rf v) (by decide)) rfl
  refine up _ ?_
  split
  · exact blk
  · split
    · exact blk
    · exact stop _ (TI_sg (TI_sg t1 (by decide)) (by decide)) (NX.sg (NX.sg (NX.rf v) (by decide)) (by decide)) rfl
