theorem nar01 {v : Int32} (h : v = 0 ∨ v = 1) : narrow .boolean (.int v) = .int v := by
  rcases h with rfl | rfl <;> rfl
theorem nltI {x : Int32} {n k : Nat} (e : x = nI n) (hn : n < 2 ^ 31) (hk : k < 2 ^ 31) (h : ¬ x ≤ nI k) : k < n := by
  subst e
  rw [nI_leI hn hk] at h
  omega
theorem nleI {x : Int32} {n k : Nat} (e : x = nI n) (hn : n < 2 ^ 31) (hk : k < 2 ^ 31) (h : x ≤ nI k) : n ≤ k := by
  subst e
  rw [nI_leI hn hk] at h
  exact h
/-- a number of the form that an index has -/
def ixN (v : Int32) (n : Nat) : Prop := ∃ j : Nat, j < n ∧ v = nI j
theorem ixN.inn {v : Int32} {n N : Nat} (h : ixN v n) (hn : n ≤ N) (hN : N < 2 ^ 31) : vp_in v N := by
  obtain ⟨j, hj, rfl⟩ := h
  exact vp_in_nI (by omega) hN
theorem ixN.at {v : Int32} {n : Nat} (h : ixN v n) (hN : n < 2 ^ 31) : v.toNatClampNeg < n ∧ v = nI v.toNatClampNeg := by
  obtain ⟨j, hj, rfl⟩ := h
  rw [nI_clamp (by omega)]
  exact ⟨hj, rfl⟩
theorem ixN.mono {v : Int32} {n N : Nat} (h : ixN v n) (hn : n ≤ N) : ixN v N := by
  obtain ⟨j, hj, e⟩ := h
  exact ⟨j, by omega, e⟩
theorem ixN.of {v : Int32} {n : Nat} {x : Int32} (e : x = nI n) (hn : n < 2 ^ 31) (h0 : ¬ v < 0) (h1 : ¬ x ≤ v) : ixN v n := by
  obtain ⟨j, hj, rfl⟩ := nI_of h0
  exact ⟨j, nltI e hn hj h1, rfl⟩
theorem ix_mul8 {x y : Int32} {n : Nat} (hx : ixN x n) (hn : n ≤ 40) (hy : ixN y 8) : vp_in (8 * x + y) 320 := by
  obtain ⟨i, hi, rfl⟩ := hx
  obtain ⟨j, hj, rfl⟩ := hy
  have e : (8 : Int32) * nI i + nI j = nI (8 * i + j) := by rw [← nI_add, ← pk_mul]; rfl
  rw [e]
  exact vp_in_nI (by omega) (by omega)
theorem ix_mul12 {x : Int32} {k : Nat} (hx : ixN x 8) (hk : k < 12) : vp_in (12 * x + nI k) 192 := by
  obtain ⟨i, hi, rfl⟩ := hx
  have e : (12 : Int32) * nI i + nI k = nI (12 * i + k) := by rw [← nI_add, ← pk_mul]; rfl
  rw [e]
  exact vp_in_nI (by omega) (by omega)
theorem ix_div {x : Int32} (hx : ixN x 1441) : ixN (x / 60) 25 := by
  obtain ⟨i, hi, rfl⟩ := hx
  have e : nI i / (60 : Int32) = nI (i / 60) := pk_div (d := 60) (by omega) (by decide) (by decide)
  rw [e]
  exact ⟨i / 60, by omega, rfl⟩
theorem ix_div1 {x : Int32} (hx : ixN x 1441) (h : ¬ x - x / 60 * 60 = 0) : ixN (x / 60 + 1) 25 := by
  obtain ⟨i, hi, rfl⟩ := hx
  have e : nI i / (60 : Int32) = nI (i / 60) := pk_div (d := 60) (by omega) (by decide) (by decide)
  have e2 : nI i - nI i / (60 : Int32) * 60 = nI (i % 60) := pk_rem (d := 60) (by omega) (by decide) (by decide)
  rw [e2] at h
  rw [e]
  refine ⟨i / 60 + 1, ?_, nI_1 _⟩
  by_cases h9 : i % 60 = 0
  · rw [h9] at h
    exact absurd rfl h
  · omega
/-- what the reference's state keeps, whatever is called -/
def MI (nB nS nK mi ln : Nat) (u : RS) : Prop :=
  (u.1 17 = nI nB ∧ nB ≤ 8) ∧ (u.1 40 = nI nS ∧ nS ≤ 40) ∧ (u.1 44 = nI nK ∧ nK ≤ 4) ∧ (u.1 18 = nI mi ∧ mi ≤ 1440) ∧ (u.1 2 = nI ln ∧ ln ≤ 440) ∧ (0 < nS → 0 < nB) ∧
  (∀ i : Nat, i < nS → u.2.2 32 i = 1 ∨ u.2.2 32 i = 2 → ixN (u.2.2 33 i) nB) ∧ (∀ i : Nat, i < nK → u.2.2 41 i = -1 ∨ ixN (u.2.2 41 i) nB) ∧ (∀ i : Nat, i < nK → u.2.2 42 i = -1 ∨ ixN (u.2.2 42 i) nB) ∧
  (∀ i : Nat, i < nB → ∃ w : Nat, 1 ≤ w ∧ w ≤ 60 ∧ u.2.2 8 i = nI w) ∧ (∀ i : Nat, i < 16 → ixN (u.2.2 22 i) 13)
theorem MI.nB {nB nS nK mi ln : Nat} {u : RS} (h : MI nB nS nK mi ln u) : u.1 17 = nI nB ∧ nB ≤ 8 := h.1
theorem MI.nS {nB nS nK mi ln : Nat} {u : RS} (h : MI nB nS nK mi ln u) : u.1 40 = nI nS ∧ nS ≤ 40 := h.2.1
theorem MI.nK {nB nS nK mi ln : Nat} {u : RS} (h : MI nB nS nK mi ln u) : u.1 44 = nI nK ∧ nK ≤ 4 := h.2.2.1
theorem MI.mi {nB nS nK mi ln : Nat} {u : RS} (h : MI nB nS nK mi ln u) : u.1 18 = nI mi ∧ mi ≤ 1440 := h.2.2.2.1
theorem MI.ln {nB nS nK mi ln : Nat} {u : RS} (h : MI nB nS nK mi ln u) : u.1 2 = nI ln ∧ ln ≤ 440 := h.2.2.2.2.1
theorem MI.sb {nB nS nK mi ln : Nat} {u : RS} (h : MI nB nS nK mi ln u) : 0 < nS → 0 < nB := h.2.2.2.2.2.1
theorem MI.at {nB nS nK mi ln : Nat} {u : RS} (h : MI nB nS nK mi ln u) : ∀ i : Nat, i < nS → u.2.2 32 i = 1 ∨ u.2.2 32 i = 2 → ixN (u.2.2 33 i) nB := h.2.2.2.2.2.2.1
theorem MI.kA {nB nS nK mi ln : Nat} {u : RS} (h : MI nB nS nK mi ln u) : ∀ i : Nat, i < nK → u.2.2 41 i = -1 ∨ ixN (u.2.2 41 i) nB := h.2.2.2.2.2.2.2.1
theorem MI.kT {nB nS nK mi ln : Nat} {u : RS} (h : MI nB nS nK mi ln u) : ∀ i : Nat, i < nK → u.2.2 42 i = -1 ∨ ixN (u.2.2 42 i) nB := h.2.2.2.2.2.2.2.2.1
theorem MI.way {nB nS nK mi ln : Nat} {u : RS} (h : MI nB nS nK mi ln u) : ∀ i : Nat, i < nB → ∃ w : Nat, 1 ≤ w ∧ w ≤ 60 ∧ u.2.2 8 i = nI w := h.2.2.2.2.2.2.2.2.2.1
theorem MI.spans {nB nS nK mi ln : Nat} {u : RS} (h : MI nB nS nK mi ln u) : ∀ i : Nat, i < 16 → ixN (u.2.2 22 i) 13 := h.2.2.2.2.2.2.2.2.2.2
theorem MI_sg {nB nS nK mi ln : Nat} {u : RS} (h : MI nB nS nK mi ln u) {k : Nat} {v : Int32} (hk : k ≠ 17 ∧ k ≠ 40 ∧ k ≠ 44 ∧ k ≠ 18 ∧ k ≠ 2) : MI nB nS nK mi ln (sg u k v) := by
  unfold MI at h ⊢
  simp only [sg]
  rw [pk_un (j := 17) (fun e => hk.1 e.symm), pk_un (j := 40) (fun e => hk.2.1 e.symm), pk_un (j := 44) (fun e => hk.2.2.1 e.symm), pk_un (j := 18) (fun e => hk.2.2.2.1 e.symm), pk_un (j := 2) (fun e => hk.2.2.2.2 e.symm)]
  exact h
theorem MI_sw {nB nS nK mi ln : Nat} {u : RS} (h : MI nB nS nK mi ln u) {w : Int64} : MI nB nS nK mi ln (sw u w) := h
theorem MI_sa {nB nS nK mi ln : Nat} {u : RS} (h : MI nB nS nK mi ln u) {k i : Nat} {v : Int32} (hk : k ≠ 32 ∧ k ≠ 33 ∧ k ≠ 41 ∧ k ≠ 42 ∧ k ≠ 8 ∧ k ≠ 22) : MI nB nS nK mi ln (sa u k i v) := by
  unfold MI at h ⊢
  simp only [sa]
  rw [if_neg (fun e => hk.1 e.symm), if_neg (fun e => hk.2.1 e.symm), if_neg (fun e => hk.2.2.1 e.symm), if_neg (fun e => hk.2.2.2.1 e.symm), if_neg (fun e => hk.2.2.2.2.1 e.symm), if_neg (fun e => hk.2.2.2.2.2 e.symm)]
  exact h
