theorem ix_down {x : Int32} {n k : Nat} (e : x = nI n) (hk : k < n) : ixN (x - 1 - nI k) n := by
  cases n with
  | zero => omega
  | succ n =>
    rw [e, nI_pred, pk_sub (by omega)]
    exact ⟨n - k, by omega, rfl⟩
theorem ix_pred2 {k : Nat} (h : ¬ nI k ≤ 0) (hk : k < 8) : ixN (nI k - 1) 8 := by
  cases k with
  | zero => exact absurd (by decide) h
  | succ k => rw [nI_pred]; exact ⟨k, by omega, rfl⟩
theorem ix_pred3 {k n : Nat} (h : ¬ nI k ≤ 0) (hk : k < n) : ixN (nI k - 1) n := by
  cases k with
  | zero => exact absurd (by decide) h
  | succ k => rw [nI_pred]; exact ⟨k, by omega, rfl⟩
theorem way_add {nB nS nK mi ln : Nat} {u : RS} {x i : Int32} (hI : MI nB nS nK mi ln u) (hx : ixN x 1441) (hi : ixN i nB) : ixN (x + u.2.2 8 i.toNatClampNeg) 1501 := by
  obtain ⟨j, hj, rfl⟩ := hx
  obtain ⟨q, hq, rfl⟩ := hi
  rw [nI_clamp (by have := hI.nB.2; omega)]
  obtain ⟨w, h1, h2, h3⟩ := hI.way q hq
  rw [h3, nI_add]
  exact ⟨j + w, by omega, rfl⟩
def lp_soonestAt (u : RS) (hg : Int32) (b : Int32) (fr : Int32) : Nat → Int32 → Int32
  | 0, x1 => 0
  | n + 1, x1 => (if 1440 ≤ x1 then (-1) else (if f_isUnder u hg b x1 = 0 then (if x1 - (u.2.2 6 b.toNatClampNeg) < fr then (lp_soonestAt u hg b fr n (x1 + 1)) else (if f_isBarred u b (x1 - (u.2.2 6 b.toNatClampNeg)) (x1 + (u.2.2 7 b.toNatClampNeg)) = 0 then x1 else (lp_soonestAt u hg b fr n (x1 + 1)))) else x1))
theorem lp_soonestAt_s (u : RS) (hg : Int32) (b : Int32) (fr : Int32) (n : Nat) (x1 : Int32) : lp_soonestAt u hg b fr (n + 1) x1 = (if 1440 ≤ x1 then (-1) else (if f_isUnder u hg b x1 = 0 then (if x1 - (u.2.2 6 b.toNatClampNeg) < fr then (lp_soonestAt u hg b fr n (x1 + 1)) else (if f_isBarred u b (x1 - (u.2.2 6 b.toNatClampNeg)) (x1 + (u.2.2 7 b.toNatClampNeg)) = 0 then x1 else (lp_soonestAt u hg b fr n (x1 + 1)))) else x1)) := rfl
def f_soonestAt (u : RS) (hg : Int32) (b : Int32) (fr : Int32) : Int32 := (lp_soonestAt u hg b fr 1600 fr)
theorem f_soonestAt_s (u : RS) (hg : Int32) (b : Int32) (fr : Int32) : f_soonestAt u hg b fr = (lp_soonestAt u hg b fr 1600 fr) := rfl
theorem im_X9_soonestAt_X9 : ∀ w ∈ wsX90, w ∈ wsX9_soonestAt := fun _ h => List.mem_cons_of_mem _ (List.mem_append_right _ h)
set_option maxHeartbeats 400000 in
set_option maxRecDepth 100000 in
theorem m_soonestAt (l : Launch) (D : va_G) (cI cZ cB cO cJ : ClassId) (a0 sz : Nat) (a : Nat → Nat) (nB nS nK mi ln : Nat) (u : RS) (hg : Int32) (b : Int32) (fr : Int32) (hI : MI nB nS nK mi ln u) (hbB : ixN b nB) (hfr : ixN fr 1501) : Met l yX9_soonestAt wsX9_soonestAt ({ frames := 2, cells := 0, slots := 0, locals := 45 }) (Pcs D cI cZ cB cO cJ a0 [.ref (a 45), .int hg, .int b, .int fr] (WM cI cZ cB a u) sz) (va_Qi (fun (r : Int32) (_ : Unit) => r = f_soonestAt u hg b fr) (fun (_ : Unit) t => va_P D vwCl (WM cI cZ cB a u) t.heap ∧ va_D (va_A (WM cI cZ cB a u) sz) (WM cI cZ cB a u)) (va_A (WM cI cZ cB a u) sz)) 0 0 (va_A (WM cI cZ cB a u) sz) := by
  refine Met.ofW (cc := cX9_soonestAt) (maxL := 5) (ret := (some .int)) (by decide) rfl ?_
  intro p e s m args below meth c s₁ B hml hv
  obtain ⟨rfl, hsz, hP, hE, hD0, hZ⟩ := hv
  have hx := B.exec
  have hb := B.bytes
  have hr := B.returns
  have hts := atoms_spec (ws := wsX9_soonestAt) B.pre
  have hown : s.vm.findClass RX9 = some m.cls := findClass_of_methodNamed B.named
  have hlocks := B.notSynchronized
  subst hsz
  have hD := hD0.self (sz := s.heap.size)
  generalize hAe : va_A (WM cI cZ cB a u) s.heap.size = A at hD hZ ⊢
  have hA : ∀ q : Nat, s.heap.size ≤ q → A q := fun q h => by rw [← hAe]; exact Or.inr h
  clear hAe
  have hS : va_S A s.heap s.heap [] := va_S.rf
  have hP : va_P D vwCl (WM cI cZ cB a u) s.heap := hP
  have hl := lv_entry ([.ref (a 45), .int hg, .int b, .int fr]) (n := 5) (Nat.le_of_ble_eq_true rfl)
  rw [lg_entry_eq]
  generalize (lg_sl ([.ref (a 45), .int hg, .int b, .int fr]) ++ List.replicate (5 - (lg_sl ([.ref (a 45), .int hg, .int b, .int fr])).length) Slot.unset).toArray = ls at hl ⊢
  have hl : lv_has ls 5 [(0, .ref (a 45)), (1, .int hg), (2, .int b), (3, .int fr)] := hl
  have hf := f_soonestAt_s u hg b fr
  obtain ⟨i0, hi0, ei0⟩ := hfr
  have i1 := hbB.inn (N := 8) hI.nB.2 (by omega)
  refine lv_iload_n hx hb dX9_soonestAt_0 rfl (lv_at hl 3 rfl) ?_
  refine lv_istore (lv' := [(4, .int fr), (0, .ref (a 45)), (1, .int hg), (2, .int b), (3, .int fr)]) hx hb dX9_soonestAt_1 hl (by decide) rfl (fun ls hl => ?_)
  refine ss_ind (J := fun n H locs ls => ∃ (x1 : Int32), (∃ i : Nat, x1 = nI i ∧ i + n = i0 + 1600 ∧ i ≤ 1500) ∧ va_P D vwCl (WM cI cZ cB a u) H ∧ va_D A (WM cI cZ cB a u) ∧ va_S A s.heap H locs ∧ lv_has ls 5 [(4, .int x1), (0, .ref (a 45)), (1, .int hg), (2, .int b), (3, .int fr)] ∧ f_soonestAt u hg b fr = lp_soonestAt u hg b fr n x1) ?_ ?_ (1600) _ _ _ ⟨fr, (⟨i0, ei0, rfl, by omega⟩), hP, hD, hS, (lv_sub hl [0, 1, 2, 3, 4] rfl), hf⟩
  · intro H locs ls hJ
    obtain ⟨x1, hx1, hP, hD, hS, hl, hf⟩ := hJ
    obtain ⟨i, _, h1, h2⟩ := hx1; omega
  · intro n_lp_soonestAt ih_lp_soonestAt H locs ls hJ
    obtain ⟨x1, hx1, hP, hD, hS, hl, hf⟩ := hJ
    replace hf := hf.trans (lp_soonestAt_s _ _ _ _ n_lp_soonestAt _)
    obtain ⟨i, ei, hi1, hi2⟩ := hx1
    refine lv_iload hx hb dX9_soonestAt_3 (lv_at hl 0 rfl) ?_
    refine lv_sipush (v := 1440) hx hb dX9_soonestAt_5 (by decide) ?_
    refine lv_icmp_ge (tgt := 73) hx hb dX9_soonestAt_8 (by decide) (fun ck => ?_) (fun ck => ?_)
    · replace hf := hf.trans (if_pos ck)
      refine lv_iconst (v := -1) hx hb dX9_soonestAt_73 (by decide) ?_
      exact ss_iret () hx hb hr hlocks hP hD hS (by rw [hf]) (Nat.le_of_ble_eq_true rfl) (Nat.le_of_ble_eq_true rfl) dX9_soonestAt_74
    · replace hf := hf.trans (if_neg ck)
      have hi : i < 1440 := by rw [ei] at ck; exact Nat.lt_of_not_le (fun e9 => ck (nI_le e9 (by omega)))
      refine lv_aload_n hx hb dX9_soonestAt_11 rfl (lv_at hl 1 rfl) ?_
      refine lv_iload_n hx hb dX9_soonestAt_12 rfl (lv_at hl 2 rfl) ?_
      refine lv_iload_n hx hb dX9_soonestAt_13 rfl (lv_at hl 3 rfl) ?_
      refine lv_iload hx hb dX9_soonestAt_14 (lv_at hl 0 rfl) ?_
      refine sf_calli (va_runV (As := [.int hg, .int b, .int x1]) (rest := []) ⟨hx, hb, hml, hown, hts⟩ (m_isUnder l D cI cZ cB cO cJ a0 H.size a  u hg b x1 (hbB.mono hI.nB.2) (⟨i, by omega, ei⟩)) (cwV 3 hts gX9_soonestAt_X9_isUnder rfl rfl rfl (by decide +kernel) ⟨Nat.le_of_ble_eq_true rfl, Nat.le_of_ble_eq_true rfl⟩) (preV_full hE hZ hA hS hP hD (va_recv hE.1 hP (ci := 10) (q0 := 0) rfl rfl)) rfl rfl hl.1 rfl (lv_room (Nat.le_of_ble_eq_true rfl)) dX9_soonestAt_16 ⟨Nat.le_of_ble_eq_true rfl, Nat.le_of_ble_eq_true rfl⟩) hP hD hS hA (fun r9 u9 H locs hw hP hD hS => ?_)
      subst hw
      have hP : va_P D vwCl (WM cI cZ cB a u) H := hP
      have hD : va_D A (WM cI cZ cB a u) := hD
      refine lv_if_eq (tgt := 25) hx hb dX9_soonestAt_19 (by decide) (fun c1 => ?_) (fun c1 => ?_)
      · replace hf := hf.trans (if_pos c1)
        refine lv_iload hx hb dX9_soonestAt_25 (lv_at hl 0 rfl) ?_
        refine lv_aload_n hx hb dX9_soonestAt_27 rfl (lv_at hl 1 rfl) ?_
        refine va_get (D := D) (ci := 10) (v := .ref (a 6)) (C := RX9) (T := TX9) (N := 45) hx hb hts im_X9_soonestAt_X9 hown hE.1 hP 0 rfl rfl 6 (by decide) (hts (.fieldLink RX9 17 "RiverBridgesModel" "opens" "[I") (by decide +kernel)) (fun _ h9 => h9) rfl dX9_soonestAt_28 ?_
        refine lv_iload_n hx hb dX9_soonestAt_31 rfl (lv_at hl 3 rfl) ?_
        refine lx_iald (v := u.2.2 6 b.toNatClampNeg) hx hb hE.1 hP 3 0 rfl rfl (by assumption) (rfl) dX9_soonestAt_32 ?_
        refine lx_isub (v := x1 - (u.2.2 6 b.toNatClampNeg)) hx hb (rfl) dX9_soonestAt_33 ?_
        refine lv_iload_n hx hb dX9_soonestAt_34 rfl (lv_at hl 4 rfl) ?_
        refine lv_icmp_lt (tgt := 67) hx hb dX9_soonestAt_35 (by decide) (fun c2 => ?_) (fun c2 => ?_)
        · replace hf := hf.trans (if_pos c2)
          refine lv_iinc (v := x1 + 1) (lv' := [(4, .int (x1 + 1)), (0, .ref (a 45)), (1, .int hg), (2, .int b), (3, .int fr)]) hx hb dX9_soonestAt_67 hl (k := 0) rfl (rfl) (by decide) rfl (fun ls hl => ?_)
          refine lv_goto (tgt := 3) hx hb dX9_soonestAt_70 (by decide) ?_
          exact ih_lp_soonestAt _ _ _ ⟨(x1 + 1), (⟨i + 1, by rw [ei]; exact nI_1 _, by omega, by omega⟩), hP, hD, hS, (lv_sub hl [0, 1, 2, 3, 4] rfl), hf⟩
        · replace hf := hf.trans (if_neg c2)
          refine lv_aload_n hx hb dX9_soonestAt_38 rfl (lv_at hl 1 rfl) ?_
          refine lv_iload_n hx hb dX9_soonestAt_39 rfl (lv_at hl 3 rfl) ?_
          refine lv_iload hx hb dX9_soonestAt_40 (lv_at hl 0 rfl) ?_
          refine lv_aload_n hx hb dX9_soonestAt_42 rfl (lv_at hl 1 rfl) ?_
          refine va_get (D := D) (ci := 10) (v := .ref (a 6)) (C := RX9) (T := TX9) (N := 45) hx hb hts im_X9_soonestAt_X9 hown hE.1 hP 0 rfl rfl 6 (by decide) (hts (.fieldLink RX9 17 "RiverBridgesModel" "opens" "[I") (by decide +kernel)) (fun _ h9 => h9) rfl dX9_soonestAt_43 ?_
          refine lv_iload_n hx hb dX9_soonestAt_46 rfl (lv_at hl 3 rfl) ?_
          refine lx_iald (v := u.2.2 6 b.toNatClampNeg) hx hb hE.1 hP 3 0 rfl rfl (by assumption) (rfl) dX9_soonestAt_47 ?_
          refine lx_isub (v := x1 - (u.2.2 6 b.toNatClampNeg)) hx hb (rfl) dX9_soonestAt_48 ?_
          refine lv_iload hx hb dX9_soonestAt_49 (lv_at hl 0 rfl) ?_
          refine lv_aload_n hx hb dX9_soonestAt_51 rfl (lv_at hl 1 rfl) ?_
          refine va_get (D := D) (ci := 10) (v := .ref (a 7)) (C := RX9) (T := TX9) (N := 45) hx hb hts im_X9_soonestAt_X9 hown hE.1 hP 0 rfl rfl 7 (by decide) (hts (.fieldLink RX9 20 "RiverBridgesModel" "shuts" "[I") (by decide +kernel)) (fun _ h9 => h9) rfl dX9_soonestAt_52 ?_
          refine lv_iload_n hx hb dX9_soonestAt_55 rfl (lv_at hl 3 rfl) ?_
          refine lx_iald (v := u.2.2 7 b.toNatClampNeg) hx hb hE.1 hP 4 0 rfl rfl (by assumption) (rfl) dX9_soonestAt_56 ?_
          refine lx_iadd (v := x1 + (u.2.2 7 b.toNatClampNeg)) hx hb (rfl) dX9_soonestAt_57 ?_
          refine sf_calli (va_runV (As := [.int b, .int (x1 - (u.2.2 6 b.toNatClampNeg)), .int (x1 + (u.2.2 7 b.toNatClampNeg))]) (rest := []) ⟨hx, hb, hml, hown, hts⟩ (m_isBarred l D cI cZ cB cO cJ a0 H.size a _ _ _ _ _  u b (x1 - (u.2.2 6 b.toNatClampNeg)) (x1 + (u.2.2 7 b.toNatClampNeg)) (hI) (hbB.mono hI.nB.2)) (cwV 3 hts gX9_soonestAt_X9_isBarred rfl rfl rfl (by decide +kernel) ⟨Nat.le_of_ble_eq_true rfl, Nat.le_of_ble_eq_true rfl⟩) (preV_full hE hZ hA hS hP hD (va_recv hE.1 hP (ci := 10) (q0 := 0) rfl rfl)) rfl rfl hl.1 rfl (lv_room (Nat.le_of_ble_eq_true rfl)) dX9_soonestAt_58 ⟨Nat.le_of_ble_eq_true rfl, Nat.le_of_ble_eq_true rfl⟩) hP hD hS hA (fun r9 u9 H locs hw hP hD hS => ?_)
          subst hw
          have hP : va_P D vwCl (WM cI cZ cB a u) H := hP
          have hD : va_D A (WM cI cZ cB a u) := hD
          refine lv_if_ne (tgt := 67) hx hb dX9_soonestAt_61 (by decide) (fun c3 => ?_) (fun c3 => ?_)
          · replace hf := hf.trans (if_neg c3)
            refine lv_iinc (v := x1 + 1) (lv' := [(4, .int (x1 + 1)), (0, .ref (a 45)), (1, .int hg), (2, .int b), (3, .int fr)]) hx hb dX9_soonestAt_67 hl (k := 0) rfl (rfl) (by decide) rfl (fun ls hl => ?_)
            refine lv_goto (tgt := 3) hx hb dX9_soonestAt_70 (by decide) ?_
            exact ih_lp_soonestAt _ _ _ ⟨(x1 + 1), (⟨i + 1, by rw [ei]; exact nI_1 _, by omega, by omega⟩), hP, hD, hS, (lv_sub hl [0, 1, 2, 3, 4] rfl), hf⟩
          · replace hf := hf.trans (if_pos c3)
            refine lv_iload hx hb dX9_soonestAt_64 (lv_at hl 0 rfl) ?_
            exact ss_iret () hx hb hr hlocks hP hD hS (by rw [hf]) (Nat.le_of_ble_eq_true rfl) (Nat.le_of_ble_eq_true rfl) dX9_soonestAt_66
      · replace hf := hf.trans (if_neg c1)
        refine lv_iload hx hb dX9_soonestAt_22 (lv_at hl 0 rfl) ?_
        exact ss_iret () hx hb hr hlocks hP hD hS (by rw [hf]) (Nat.le_of_ble_eq_true rfl) (Nat.le_of_ble_eq_true rfl) dX9_soonestAt_24
theorem lp_soon_ix {u : RS} {hg b fr : Int32} : ∀ (n : Nat) (x : Int32), (∃ i : Nat, x = nI i ∧ i + n < 100000) → lp_soonestAt u hg b fr n x = -1 ∨ ixN (lp_soonestAt u hg b fr n x) 1440 := by
  intro n
  induction n with
  | zero => intro x _; exact Or.inr ⟨0, by omega, rfl⟩
  | succ n ih =>
    intro x hx
    obtain ⟨i, ei, hi⟩ := hx
    have hn : ∃ j : Nat, x + 1 = nI j ∧ j + n < 100000 := ⟨i + 1, by rw [ei]; exact nI_1 _, by omega⟩
    rw [lp_soonestAt_s]
    by_cases c1 : 1440 ≤ x
    · rw [if_pos c1]; exact Or.inl rfl
    · rw [if_neg c1]
      have hx2 : ixN x 1440 := by
        rw [ei] at c1 ⊢
        exact ⟨i, Nat.lt_of_not_le (fun e9 => c1 (nI_le e9 (by omega))), rfl⟩
      repeat' split
      all_goals first | exact ih _ hn | exact Or.inr hx2
theorem soon_ix {u : RS} {hg b fr : Int32} (h : ixN fr 1501) : f_soonestAt u hg b fr = -1 ∨ ixN (f_soonestAt u hg b fr) 1440 := by
  obtain ⟨i, hi, ei⟩ := h
  rw [f_soonestAt_s]
  exact lp_soon_ix _ _ ⟨i, ei, by omega⟩
def lp_soonest (u : RS) (hg : Int32) (up : Int32) (w1 : RS) : Nat → Int32 → Nat → Int32 × RS
  | 0, x1, k => (0, w1)
  | n + 1, x1, k => (if u.1 17 ≤ nI k then (x1, w1) else (if up = 0 then (if nI k ≤ 0 then (if 0 ≤ f_soonestAt w1 hg (((u.1 17) - 1) - (nI k)) x1 then (lp_soonest u hg up w1 n (f_soonestAt w1 hg (((u.1 17) - 1) - (nI k)) x1) (k + 1)) else (-1, w1)) else (if 0 ≤ f_soonestAt w1 hg (((u.1 17) - 1) - (nI k)) (x1 + (u.2.2 8 ((((u.1 17) - 1) - (nI k)).toNatClampNeg))) then (lp_soonest u hg up w1 n (f_soonestAt w1 hg (((u.1 17) - 1) - (nI k)) (x1 + (u.2.2 8 ((((u.1 17) - 1) - (nI k)).toNatClampNeg)))) (k + 1)) else (-1, w1))) else (if nI k ≤ 0 then (if 0 ≤ f_soonestAt w1 hg (nI k) x1 then (lp_soonest u hg up w1 n (f_soonestAt w1 hg (nI k) x1) (k + 1)) else (-1, w1)) else (if 0 ≤ f_soonestAt w1 hg (nI k) (x1 + (u.2.2 8 (((nI k) - 1).toNatClampNeg))) then (lp_soonest u hg up w1 n (f_soonestAt w1 hg (nI k) (x1 + (u.2.2 8 (((nI k) - 1).toNatClampNeg)))) (k + 1)) else (-1, w1)))))
theorem lp_soonest_s (u : RS) (hg : Int32) (up : Int32) (w1 : RS) (n : Nat) (x1 : Int32) (k : Nat) : lp_soonest u hg up w1 (n + 1) x1 k = (if u.1 17 ≤ nI k then (x1, w1) else (if up = 0 then (if nI k ≤ 0 then (if 0 ≤ f_soonestAt w1 hg (((u.1 17) - 1) - (nI k)) x1 then (lp_soonest u hg up w1 n (f_soonestAt w1 hg (((u.1 17) - 1) - (nI k)) x1) (k + 1)) else (-1, w1)) else (if 0 ≤ f_soonestAt w1 hg (((u.1 17) - 1) - (nI k)) (x1 + (u.2.2 8 ((((u.1 17) - 1) - (nI k)).toNatClampNeg))) then (lp_soonest u hg up w1 n (f_soonestAt w1 hg (((u.1 17) - 1) - (nI k)) (x1 + (u.2.2 8 ((((u.1 17) - 1) - (nI k)).toNatClampNeg)))) (k + 1)) else (-1, w1))) else (if nI k ≤ 0 then (if 0 ≤ f_soonestAt w1 hg (nI k) x1 then (lp_soonest u hg up w1 n (f_soonestAt w1 hg (nI k) x1) (k + 1)) else (-1, w1)) else (if 0 ≤ f_soonestAt w1 hg (nI k) (x1 + (u.2.2 8 (((nI k) - 1).toNatClampNeg))) then (lp_soonest u hg up w1 n (f_soonestAt w1 hg (nI k) (x1 + (u.2.2 8 (((nI k) - 1).toNatClampNeg)))) (k + 1)) else (-1, w1))))) := rfl
def f_soonest (u : RS) (hg : Int32) (up : Int32) (fr : Int32) : Int32 × RS := (if u.1 17 = 0 then (-1, (sg u 0 0)) else (if f_isIn (sg u 0 0) hg 0 500 = 0 then (-1, (sg u 0 0)) else (if f_isIn (sg u 0 0) fr 0 1440 = 0 then (-1, (sg u 0 0)) else (lp_soonest u hg up (sg u 0 0) 9 fr 0))))
theorem f_soonest_s (u : RS) (hg : Int32) (up : Int32) (fr : Int32) : f_soonest u hg up fr = (if u.1 17 = 0 then (-1, (sg u 0 0)) else (if f_isIn (sg u 0 0) hg 0 500 = 0 then (-1, (sg u 0 0)) else (if f_isIn (sg u 0 0) fr 0 1440 = 0 then (-1, (sg u 0 0)) else (lp_soonest u hg up (sg u 0 0) 9 fr 0)))) := rfl
theorem im_X9_soonest_X9 : ∀ w ∈ wsX90, w ∈ wsX9_soonest := fun _ h => List.mem_cons_of_mem _ (List.mem_append_right _ h)
set_option maxHeartbeats 400000 in
set_option maxRecDepth 100000 in
theorem m_soonest (l : Launch) (D : va_G) (cI cZ cB cO cJ : ClassId) (a0 sz : Nat) (a : Nat → Nat) (nB nS nK mi ln : Nat) (u : RS) (hg : Int32) (up : Int32) (fr : Int32) (hI : MI nB nS nK mi ln u) : Met l yX9_soonest wsX9_soonest ({ frames := 3, cells := 0, slots := 0, locals := 69 }) (Pcs D cI cZ cB cO cJ a0 [.ref (a 45), .int hg, .int up, .int fr] (WM cI cZ cB a u) sz) (va_Qi (fun (r : Int32) (_ : Unit) => r = (f_soonest u hg up fr).1) (fun (_ : Unit) t => va_P D vwCl (WM cI cZ cB a (f_soonest u hg up fr).2) t.heap ∧ va_D (va_A (WM cI cZ cB a u) sz) (WM cI cZ cB a (f_soonest u hg up fr).2)) (va_A (WM cI cZ cB a u) sz)) 0 0 (va_A (WM cI cZ cB a u) sz) := by
  refine Met.ofW (cc := cX9_soonest) (maxL := 7) (ret := (some .int)) (by decide) rfl ?_
  intro p e s m args below meth c s₁ B hml hv
  obtain ⟨rfl, hsz, hP, hE, hD0, hZ⟩ := hv
  have hx := B.exec
  have hb := B.bytes
  have hr := B.returns
  have hts := atoms_spec (ws := wsX9_soonest) B.pre
  have hown : s.vm.findClass RX9 = some m.cls := findClass_of_methodNamed B.named
  have hlocks := B.notSynchronized
  subst hsz
  have hD := hD0.self (sz := s.heap.size)
  generalize hAe : va_A (WM cI cZ cB a u) s.heap.size = A at hD hZ ⊢
  have hA : ∀ q : Nat, s.heap.size ≤ q → A q := fun q h => by rw [← hAe]; exact Or.inr h
  clear hAe
  have hS : va_S A s.heap s.heap [] := va_S.rf
  have hP : va_P D vwCl (WM cI cZ cB a u) s.heap := hP
  have hl := lv_entry ([.ref (a 45), .int hg, .int up, .int fr]) (n := 7) (Nat.le_of_ble_eq_true rfl)
  rw [lg_entry_eq]
  generalize (lg_sl ([.ref (a 45), .int hg, .int up, .int fr]) ++ List.replicate (7 - (lg_sl ([.ref (a 45), .int hg, .int up, .int fr])).length) Slot.unset).toArray = ls at hl ⊢
  have hl : lv_has ls 7 [(0, .ref (a 45)), (1, .int hg), (2, .int up), (3, .int fr)] := hl
  have hf := f_soonest_s u hg up fr
  refine lv_aload_n hx hb dX9_soonest_0 rfl (lv_at hl 0 rfl) ?_
  refine lv_iconst (v := 0) hx hb dX9_soonest_1 (by decide) ?_
  refine va_put (D := D) (ci := 10) (v := .int 0) (ty := .int) (C := RX9) (T := TX9) (N := 45) hx hb hts im_X9_soonest_X9 tyX9 tyX9_ok nmX9 hown hE.1 hP hD hS 0 rfl rfl 0 (by decide) (hts (.fieldLink RX9 103 "RiverBridgesModel" "thrown" "I") (by decide +kernel)) (fun _ h9 => h9) rfl (by decide +kernel) rfl rfl (Nat.le_of_ble_eq_true rfl) dX9_soonest_2 (fun H locs hP hD hS => ?_)
  have hP := va_P_eq (WM_g0 cI cZ cB a u 0) hP
  have hD := va_D_eq (WM_g0 cI cZ cB a u 0) hD
  refine lv_aload_n hx hb dX9_soonest_5 rfl (lv_at hl 0 rfl) ?_
  refine va_get (D := D) (ci := 10) (v := .int (u.1 17)) (C := RX9) (T := TX9) (N := 45) hx hb hts im_X9_soonest_X9 hown hE.1 hP 0 rfl rfl 17 (by decide) (hts (.fieldLink RX9 119 "RiverBridgesModel" "bridges" "I") (by decide +kernel)) (fun _ h9 => h9) rfl dX9_soonest_6 ?_
  refine lv_if_eq (tgt := 34) hx hb dX9_soonest_9 (by decide) (fun c1 => ?_) (fun c1 => ?_)
  · replace hf := hf.trans (if_pos c1)
    refine lv_iconst (v := -1) hx hb dX9_soonest_34 (by decide) ?_
    exact ss_iret () hx hb hr hlocks (by rw [hf]; exact hP) (by rw [hf]; exact hD) hS (by rw [hf]) (Nat.le_of_ble_eq_true rfl) (Nat.le_of_ble_eq_true rfl) dX9_soonest_35
  · replace hf := hf.trans (if_neg c1)
    refine lv_iload_n hx hb dX9_soonest_12 rfl (lv_at hl 1 rfl) ?_
    refine lv_iconst (v := 0) hx hb dX9_soonest_13 (by decide) ?_
    refine lv_sipush (v := 500) hx hb dX9_soonest_14 (by decide) ?_
    refine sf_calli (va_runS (As := [.int hg, .int 0, .int 500]) (rest := []) ⟨hx, hb, hml, hown, hts⟩ (m_isIn l D cI cZ cB cO cJ a0 H.size a  (sg u 0 0) hg 0 500 ) (cwS 3 hts gX9_soonest_X9_isIn rfl rfl rfl (by decide +kernel) ⟨Nat.le_of_ble_eq_true rfl, Nat.le_of_ble_eq_true rfl⟩) (preS_full hE hZ hA hS hP hD) rfl rfl hl.1 rfl (lv_room (Nat.le_of_ble_eq_true rfl)) dX9_soonest_17 ⟨Nat.le_of_ble_eq_true rfl, Nat.le_of_ble_eq_true rfl⟩) hP hD hS hA (fun r9 u9 H locs hw hP hD hS => ?_)
    subst hw
    have hP : va_P D vwCl (WM cI cZ cB a (sg u 0 0)) H := hP
    have hD : va_D A (WM cI cZ cB a (sg u 0 0)) := hD
    refine lv_if_eq (tgt := 34) hx hb dX9_soonest_20 (by decide) (fun c2 => ?_) (fun c2 => ?_)
    · replace hf := hf.trans (if_pos c2)
      refine lv_iconst (v := -1) hx hb dX9_soonest_34 (by decide) ?_
      exact ss_iret () hx hb hr hlocks (by rw [hf]; exact hP) (by rw [hf]; exact hD) hS (by rw [hf]) (Nat.le_of_ble_eq_true rfl) (Nat.le_of_ble_eq_true rfl) dX9_soonest_35
    · replace hf := hf.trans (if_neg c2)
      refine lv_iload_n hx hb dX9_soonest_23 rfl (lv_at hl 3 rfl) ?_
      refine lv_iconst (v := 0) hx hb dX9_soonest_24 (by decide) ?_
      refine lv_sipush (v := 1440) hx hb dX9_soonest_25 (by decide) ?_
      refine sf_calli (va_runS (As := [.int fr, .int 0, .int 1440]) (rest := []) ⟨hx, hb, hml, hown, hts⟩ (m_isIn l D cI cZ cB cO cJ a0 H.size a  (sg u 0 0) fr 0 1440 ) (cwS 3 hts gX9_soonest_X9_isIn rfl rfl rfl (by decide +kernel) ⟨Nat.le_of_ble_eq_true rfl, Nat.le_of_ble_eq_true rfl⟩) (preS_full hE hZ hA hS hP hD) rfl rfl hl.1 rfl (lv_room (Nat.le_of_ble_eq_true rfl)) dX9_soonest_28 ⟨Nat.le_of_ble_eq_true rfl, Nat.le_of_ble_eq_true rfl⟩) hP hD hS hA (fun r9 u9 H locs hw hP hD hS => ?_)
      subst hw
      have hP : va_P D vwCl (WM cI cZ cB a (sg u 0 0)) H := hP
      have hD : va_D A (WM cI cZ cB a (sg u 0 0)) := hD
      refine lv_if_ne (tgt := 36) hx hb dX9_soonest_31 (by decide) (fun cin => ?_) (fun cin => ?_)
      · replace hf := hf.trans (if_neg cin)
        have hfr := isIn_ix (n := 1440) (by decide) cin
        have hI0 := MI_sg (k := 0) (v := 0) hI (by decide)
        refine lv_iload_n hx hb dX9_soonest_36 rfl (lv_at hl 3 rfl) ?_
        refine lv_istore (lv' := [(4, .int fr), (0, .ref (a 45)), (1, .int hg), (2, .int up), (3, .int fr)]) hx hb dX9_soonest_37 hl (by decide) rfl (fun ls hl => ?_)
        refine lv_iconst (v := 0) hx hb dX9_soonest_39 (by decide) ?_
        refine lv_istore (lv' := [(5, .int 0), (4, .int fr), (0, .ref (a 45)), (1, .int hg), (2, .int up), (3, .int fr)]) hx hb dX9_soonest_40 hl (by decide) rfl (fun ls hl => ?_)
        refine ss_ind (J := fun n H locs ls => ∃ (x1 : Int32) (k : Nat), (k + n = 9) ∧ (k ≤ nB) ∧ (ixN x1 1441) ∧ va_P D vwCl (WM cI cZ cB a (sg u 0 0)) H ∧ va_D A (WM cI cZ cB a (sg u 0 0)) ∧ va_S A s.heap H locs ∧ lv_has ls 7 [(4, .int x1), (5, .int (nI k)), (0, .ref (a 45)), (1, .int hg), (2, .int up), (3, .int fr)] ∧ f_soonest u hg up fr = lp_soonest u hg up (sg u 0 0) n x1 k) ?_ ?_ (9) _ _ _ ⟨fr, 0, (rfl), (Nat.zero_le _), (hfr), hP, hD, hS, (lv_sub hl [1, 0, 2, 3, 4, 5] rfl), hf⟩
        · intro H locs ls hJ
          obtain ⟨x1, k, hkn, hkw, hx1, hP, hD, hS, hl, hf⟩ := hJ
          have := hI.nB.2; omega
        · intro n_lp_soonest ih_lp_soonest H locs ls hJ
          obtain ⟨x1, k, hkn, hkw, hx1, hP, hD, hS, hl, hf⟩ := hJ
          replace hf := hf.trans (lp_soonest_s _ _ _ _ n_lp_soonest _ _)
          refine lv_iload hx hb dX9_soonest_42 (lv_at hl 1 rfl) ?_
          refine lv_aload_n hx hb dX9_soonest_44 rfl (lv_at hl 2 rfl) ?_
          refine va_get (D := D) (ci := 10) (v := .int (u.1 17)) (C := RX9) (T := TX9) (N := 45) hx hb hts im_X9_soonest_X9 hown hE.1 hP 0 rfl rfl 17 (by decide) (hts (.fieldLink RX9 119 "RiverBridgesModel" "bridges" "I") (by decide +kernel)) (fun _ h9 => h9) rfl dX9_soonest_45 ?_
          refine lv_icmp_ge (tgt := 123) hx hb dX9_soonest_48 (by decide) (fun ck => ?_) (fun ck => ?_)
          · replace hf := hf.trans (if_pos ck)
            refine lv_iload hx hb dX9_soonest_123 (lv_at hl 0 rfl) ?_
            exact ss_iret () hx hb hr hlocks (by rw [hf]; exact hP) (by rw [hf]; exact hD) hS (by rw [hf]) (Nat.le_of_ble_eq_true rfl) (Nat.le_of_ble_eq_true rfl) dX9_soonest_125
          · replace hf := hf.trans (if_neg ck)
            have hk : k < nB := nltI hI0.nB.1 (by have := hI0.nB.2; omega) (by omega) ck
            have i2 : vp_in (nI k) 8 := vp_in_nI (by have := hI0.nB.2; omega) (by omega)
            refine lv_iload_n hx hb dX9_soonest_51 rfl (lv_at hl 4 rfl) ?_
            refine lv_if_eq (tgt := 60) hx hb dX9_soonest_52 (by decide) (fun cu => ?_) (fun cu => ?_)
            · replace hf := hf.trans (if_pos cu)
              have hbx : ixN (u.1 17 - 1 - nI k) nB := ix_down hI.nB.1 hk
              refine lv_aload_n hx hb dX9_soonest_60 rfl (lv_at hl 2 rfl) ?_
              refine va_get (D := D) (ci := 10) (v := .int (u.1 17)) (C := RX9) (T := TX9) (N := 45) hx hb hts im_X9_soonest_X9 hown hE.1 hP 0 rfl rfl 17 (by decide) (hts (.fieldLink RX9 119 "RiverBridgesModel" "bridges" "I") (by decide +kernel)) (fun _ h9 => h9) rfl dX9_soonest_61 ?_
              refine lv_iconst (v := 1) hx hb dX9_soonest_64 (by decide) ?_
              refine lx_isub (v := (u.1 17) - 1) hx hb (rfl) dX9_soonest_65 ?_
              refine lv_iload hx hb dX9_soonest_66 (lv_at hl 1 rfl) ?_
              refine lx_isub (v := ((u.1 17) - 1) - (nI k)) hx hb (rfl) dX9_soonest_68 ?_
              refine lv_istore (lv' := [(6, .int (((u.1 17) - 1) - (nI k))), (4, .int x1), (5, .int (nI k)), (0, .ref (a 45)), (1, .int hg), (2, .int up), (3, .int fr)]) hx hb dX9_soonest_69 hl (by decide) rfl (fun ls hl => ?_)
              refine lv_iload hx hb dX9_soonest_71 (lv_at hl 2 rfl) ?_
              refine lv_if_le (tgt := 99) hx hb dX9_soonest_73 (by decide) (fun cz => ?_) (fun cz => ?_)
              · replace hf := hf.trans (if_pos cz)
                have hm : ixN x1 1501 := hx1.mono (by omega)
                refine lv_aload_n hx hb dX9_soonest_99 rfl (lv_at hl 3 rfl) ?_
                refine lv_iload_n hx hb dX9_soonest_100 rfl (lv_at hl 4 rfl) ?_
                refine lv_iload hx hb dX9_soonest_101 (lv_at hl 0 rfl) ?_
                refine lv_iload hx hb dX9_soonest_103 (lv_at hl 1 rfl) ?_
                refine sf_calli (va_runV (As := [.int hg, .int (((u.1 17) - 1) - (nI k)), .int x1]) (rest := []) ⟨hx, hb, hml, hown, hts⟩ (m_soonestAt l D cI cZ cB cO cJ a0 H.size a _ _ _ _ _  (sg u 0 0) hg (((u.1 17) - 1) - (nI k)) x1 (hI0) (hbx) (hm)) (cwV 3 hts gX9_soonest_X9_soonestAt rfl rfl rfl (by decide +kernel) ⟨Nat.le_of_ble_eq_true rfl, Nat.le_of_ble_eq_true rfl⟩) (preV_full hE hZ hA hS hP hD (va_recv hE.1 hP (ci := 10) (q0 := 0) rfl rfl)) rfl rfl hl.1 rfl (lv_room (Nat.le_of_ble_eq_true rfl)) dX9_soonest_105 ⟨Nat.le_of_ble_eq_true rfl, Nat.le_of_ble_eq_true rfl⟩) hP hD hS hA (fun r9 u9 H locs hw hP hD hS => ?_)
                subst hw
                have hP : va_P D vwCl (WM cI cZ cB a (sg u 0 0)) H := hP
                have hD : va_D A (WM cI cZ cB a (sg u 0 0)) := hD
                refine lv_istore (lv' := [(4, .int (f_soonestAt (sg u 0 0) hg (((u.1 17) - 1) - (nI k)) x1)), (6, .int (((u.1 17) - 1) - (nI k))), (5, .int (nI k)), (0, .ref (a 45)), (1, .int hg), (2, .int up), (3, .int fr)]) hx hb dX9_soonest_108 hl (by decide) rfl (fun ls hl => ?_)
                refine lv_iload hx hb dX9_soonest_110 (lv_at hl 0 rfl) ?_
                refine lv_if_ge (tgt := 117) hx hb dX9_soonest_112 (by decide) (fun cp => ?_) (fun cp => ?_)
                · replace hf := hf.trans (if_pos cp)
                  have hx2 := (soon_ix (u := sg u 0 0) (hg := hg) (b := u.1 17 - 1 - nI k) hm).resolve_left (fun e9 => by rw [e9] at cp; exact absurd cp (by decide))
                  refine lv_iinc (v := nI (k + 1)) (lv' := [(5, .int (nI (k + 1))), (4, .int (f_soonestAt (sg u 0 0) hg (((u.1 17) - 1) - (nI k)) x1)), (6, .int (((u.1 17) - 1) - (nI k))), (0, .ref (a 45)), (1, .int hg), (2, .int up), (3, .int fr)]) hx hb dX9_soonest_117 hl (k := 2) rfl (by first | exact nI_add _ _ | rfl) (by decide) rfl (fun ls hl => ?_)
                  refine lv_goto (tgt := 42) hx hb dX9_soonest_120 (by decide) ?_
                  exact ih_lp_soonest _ _ _ ⟨(f_soonestAt (sg u 0 0) hg (((u.1 17) - 1) - (nI k)) x1), (k + 1), (by omega), (by omega), (hx2.mono (by omega)), hP, hD, hS, (lv_sub hl [1, 0, 3, 4, 5, 6] rfl), hf⟩
                · replace hf := hf.trans (if_neg cp)
                  refine lv_iconst (v := -1) hx hb dX9_soonest_115 (by decide) ?_
                  exact ss_iret () hx hb hr hlocks (by rw [hf]; exact hP) (by rw [hf]; exact hD) hS (by rw [hf]) (Nat.le_of_ble_eq_true rfl) (Nat.le_of_ble_eq_true rfl) dX9_soonest_116
              · replace hf := hf.trans (if_neg cz)
                refine lv_iload hx hb dX9_soonest_76 (lv_at hl 1 rfl) ?_
                refine lv_aload_n hx hb dX9_soonest_78 rfl (lv_at hl 3 rfl) ?_
                refine va_get (D := D) (ci := 10) (v := .ref (a 8)) (C := RX9) (T := TX9) (N := 45) hx hb hts im_X9_soonest_X9 hown hE.1 hP 0 rfl rfl 8 (by decide) (hts (.fieldLink RX9 23 "RiverBridgesModel" "way" "[I") (by decide +kernel)) (fun _ h9 => h9) rfl dX9_soonest_79 ?_
                refine lv_iload_n hx hb dX9_soonest_82 rfl (lv_at hl 5 rfl) ?_
                refine lv_if_eq (tgt := 93) hx hb dX9_soonest_83 (by decide) (fun _ => ?_) (fun c9 => absurd (cu) c9)
                refine lv_iload hx hb dX9_soonest_93 (lv_at hl 0 rfl) ?_
                have hm : ixN (x1 + u.2.2 8 (u.1 17 - 1 - nI k).toNatClampNeg) 1501 := way_add hI hx1 hbx
                refine lx_iald (v := u.2.2 8 ((((u.1 17) - 1) - (nI k)).toNatClampNeg)) hx hb hE.1 hP 5 0 rfl rfl (hbx.inn hI.nB.2 (by omega)) (rfl) dX9_soonest_95 ?_
                refine lx_iadd (v := x1 + (u.2.2 8 ((((u.1 17) - 1) - (nI k)).toNatClampNeg))) hx hb (rfl) dX9_soonest_96 ?_
                refine lv_istore (lv' := [(4, .int (x1 + (u.2.2 8 ((((u.1 17) - 1) - (nI k)).toNatClampNeg)))), (6, .int (((u.1 17) - 1) - (nI k))), (5, .int (nI k)), (0, .ref (a 45)), (1, .int hg), (2, .int up), (3, .int fr)]) hx hb dX9_soonest_97 hl (by decide) rfl (fun ls hl => ?_)
                refine lv_aload_n hx hb dX9_soonest_99 rfl (lv_at hl 3 rfl) ?_
                refine lv_iload_n hx hb dX9_soonest_100 rfl (lv_at hl 4 rfl) ?_
                refine lv_iload hx hb dX9_soonest_101 (lv_at hl 1 rfl) ?_
                refine lv_iload hx hb dX9_soonest_103 (lv_at hl 0 rfl) ?_
                refine sf_calli (va_runV (As := [.int hg, .int (((u.1 17) - 1) - (nI k)), .int (x1 + (u.2.2 8 ((((u.1 17) - 1) - (nI k)).toNatClampNeg)))]) (rest := []) ⟨hx, hb, hml, hown, hts⟩ (m_soonestAt l D cI cZ cB cO cJ a0 H.size a _ _ _ _ _  (sg u 0 0) hg (((u.1 17) - 1) - (nI k)) (x1 + (u.2.2 8 ((((u.1 17) - 1) - (nI k)).toNatClampNeg))) (hI0) (hbx) (hm)) (cwV 3 hts gX9_soonest_X9_soonestAt rfl rfl rfl (by decide +kernel) ⟨Nat.le_of_ble_eq_true rfl, Nat.le_of_ble_eq_true rfl⟩) (preV_full hE hZ hA hS hP hD (va_recv hE.1 hP (ci := 10) (q0 := 0) rfl rfl)) rfl rfl hl.1 rfl (lv_room (Nat.le_of_ble_eq_true rfl)) dX9_soonest_105 ⟨Nat.le_of_ble_eq_true rfl, Nat.le_of_ble_eq_true rfl⟩) hP hD hS hA (fun r9 u9 H locs hw hP hD hS => ?_)
                subst hw
                have hP : va_P D vwCl (WM cI cZ cB a (sg u 0 0)) H := hP
                have hD : va_D A (WM cI cZ cB a (sg u 0 0)) := hD
                refine lv_istore (lv' := [(4, .int (f_soonestAt (sg u 0 0) hg (((u.1 17) - 1) - (nI k)) (x1 + (u.2.2 8 ((((u.1 17) - 1) - (nI k)).toNatClampNeg))))), (6, .int (((u.1 17) - 1) - (nI k))), (5, .int (nI k)), (0, .ref (a 45)), (1, .int hg), (2, .int up), (3, .int fr)]) hx hb dX9_soonest_108 hl (by decide) rfl (fun ls hl => ?_)
                refine lv_iload hx hb dX9_soonest_110 (lv_at hl 0 rfl) ?_
                refine lv_if_ge (tgt := 117) hx hb dX9_soonest_112 (by decide) (fun cp => ?_) (fun cp => ?_)
                · replace hf := hf.trans (if_pos cp)
                  have hx2 := (soon_ix (u := sg u 0 0) (hg := hg) (b := u.1 17 - 1 - nI k) hm).resolve_left (fun e9 => by rw [e9] at cp; exact absurd cp (by decide))
                  refine lv_iinc (v := nI (k + 1)) (lv' := [(5, .int (nI (k + 1))), (4, .int (f_soonestAt (sg u 0 0) hg (((u.1 17) - 1) - (nI k)) (x1 + (u.2.2 8 ((((u.1 17) - 1) - (nI k)).toNatClampNeg))))), (6, .int (((u.1 17) - 1) - (nI k))), (0, .ref (a 45)), (1, .int hg), (2, .int up), (3, .int fr)]) hx hb dX9_soonest_117 hl (k := 2) rfl (by first | exact nI_add _ _ | rfl) (by decide) rfl (fun ls hl => ?_)
                  refine lv_goto (tgt := 42) hx hb dX9_soonest_120 (by decide) ?_
                  exact ih_lp_soonest _ _ _ ⟨(f_soonestAt (sg u 0 0) hg (((u.1 17) - 1) - (nI k)) (x1 + (u.2.2 8 ((((u.1 17) - 1) - (nI k)).toNatClampNeg)))), (k + 1), (by omega), (by omega), (hx2.mono (by omega)), hP, hD, hS, (lv_sub hl [1, 0, 3, 4, 5, 6] rfl), hf⟩
                · replace hf := hf.trans (if_neg cp)
                  refine lv_iconst (v := -1) hx hb dX9_soonest_115 (by decide) ?_
                  exact ss_iret () hx hb hr hlocks (by rw [hf]; exact hP) (by rw [hf]; exact hD) hS (by rw [hf]) (Nat.le_of_ble_eq_true rfl) (Nat.le_of_ble_eq_true rfl) dX9_soonest_116
            · replace hf := hf.trans (if_neg cu)
              have hbx : ixN (nI k) nB := ⟨k, hk, rfl⟩
              refine lv_iload hx hb dX9_soonest_55 (lv_at hl 1 rfl) ?_
              refine lv_goto (tgt := 69) hx hb dX9_soonest_57 (by decide) ?_
              refine lv_istore (lv' := [(6, .int (nI k)), (4, .int x1), (5, .int (nI k)), (0, .ref (a 45)), (1, .int hg), (2, .int up), (3, .int fr)]) hx hb dX9_soonest_69 hl (by decide) rfl (fun ls hl => ?_)
              refine lv_iload hx hb dX9_soonest_71 (lv_at hl 2 rfl) ?_
              refine lv_if_le (tgt := 99) hx hb dX9_soonest_73 (by decide) (fun cz => ?_) (fun cz => ?_)
              · replace hf := hf.trans (if_pos cz)
                have hm : ixN x1 1501 := hx1.mono (by omega)
                refine lv_aload_n hx hb dX9_soonest_99 rfl (lv_at hl 3 rfl) ?_
                refine lv_iload_n hx hb dX9_soonest_100 rfl (lv_at hl 4 rfl) ?_
                refine lv_iload hx hb dX9_soonest_101 (lv_at hl 0 rfl) ?_
                refine lv_iload hx hb dX9_soonest_103 (lv_at hl 1 rfl) ?_
                refine sf_calli (va_runV (As := [.int hg, .int (nI k), .int x1]) (rest := []) ⟨hx, hb, hml, hown, hts⟩ (m_soonestAt l D cI cZ cB cO cJ a0 H.size a _ _ _ _ _  (sg u 0 0) hg (nI k) x1 (hI0) (hbx) (hm)) (cwV 3 hts gX9_soonest_X9_soonestAt rfl rfl rfl (by decide +kernel) ⟨Nat.le_of_ble_eq_true rfl, Nat.le_of_ble_eq_true rfl⟩) (preV_full hE hZ hA hS hP hD (va_recv hE.1 hP (ci := 10) (q0 := 0) rfl rfl)) rfl rfl hl.1 rfl (lv_room (Nat.le_of_ble_eq_true rfl)) dX9_soonest_105 ⟨Nat.le_of_ble_eq_true rfl, Nat.le_of_ble_eq_true rfl⟩) hP hD hS hA (fun r9 u9 H locs hw hP hD hS => ?_)
                subst hw
                have hP : va_P D vwCl (WM cI cZ cB a (sg u 0 0)) H := hP
                have hD : va_D A (WM cI cZ cB a (sg u 0 0)) := hD
                refine lv_istore (lv' := [(4, .int (f_soonestAt (sg u 0 0) hg (nI k) x1)), (6, .int (nI k)), (5, .int (nI k)), (0, .ref (a 45)), (1, .int hg), (2, .int up), (3, .int fr)]) hx hb dX9_soonest_108 hl (by decide) rfl (fun ls hl => ?_)
                refine lv_iload hx hb dX9_soonest_110 (lv_at hl 0 rfl) ?_
                refine lv_if_ge (tgt := 117) hx hb dX9_soonest_112 (by decide) (fun cp => ?_) (fun cp => ?_)
                · replace hf := hf.trans (if_pos cp)
                  have hx2 := (soon_ix (u := sg u 0 0) (hg := hg) (b := nI k) hm).resolve_left (fun e9 => by rw [e9] at cp; exact absurd cp (by decide))
                  refine lv_iinc (v := nI (k + 1)) (lv' := [(5, .int (nI (k + 1))), (4, .int (f_soonestAt (sg u 0 0) hg (nI k) x1)), (6, .int (nI k)), (0, .ref (a 45)), (1, .int hg), (2, .int up), (3, .int fr)]) hx hb dX9_soonest_117 hl (k := 2) rfl (by first | exact nI_add _ _ | rfl) (by decide) rfl (fun ls hl => ?_)
                  refine lv_goto (tgt := 42) hx hb dX9_soonest_120 (by decide) ?_
                  exact ih_lp_soonest _ _ _ ⟨(f_soonestAt (sg u 0 0) hg (nI k) x1), (k + 1), (by omega), (by omega), (hx2.mono (by omega)), hP, hD, hS, (lv_sub hl [1, 0, 3, 4, 5, 6] rfl), hf⟩
                · replace hf := hf.trans (if_neg cp)
                  refine lv_iconst (v := -1) hx hb dX9_soonest_115 (by decide) ?_
                  exact ss_iret () hx hb hr hlocks (by rw [hf]; exact hP) (by rw [hf]; exact hD) hS (by rw [hf]) (Nat.le_of_ble_eq_true rfl) (Nat.le_of_ble_eq_true rfl) dX9_soonest_116
              · replace hf := hf.trans (if_neg cz)
                refine lv_iload hx hb dX9_soonest_76 (lv_at hl 1 rfl) ?_
                refine lv_aload_n hx hb dX9_soonest_78 rfl (lv_at hl 3 rfl) ?_
                refine va_get (D := D) (ci := 10) (v := .ref (a 8)) (C := RX9) (T := TX9) (N := 45) hx hb hts im_X9_soonest_X9 hown hE.1 hP 0 rfl rfl 8 (by decide) (hts (.fieldLink RX9 23 "RiverBridgesModel" "way" "[I") (by decide +kernel)) (fun _ h9 => h9) rfl dX9_soonest_79 ?_
                refine lv_iload_n hx hb dX9_soonest_82 rfl (lv_at hl 5 rfl) ?_
                refine lv_if_eq (tgt := 93) hx hb dX9_soonest_83 (by decide) (fun c9 => absurd c9 (cu)) (fun _ => ?_)
                refine lv_iload hx hb dX9_soonest_86 (lv_at hl 0 rfl) ?_
                refine lv_iconst (v := 1) hx hb dX9_soonest_88 (by decide) ?_
                refine lx_isub (v := (nI k) - 1) hx hb (rfl) dX9_soonest_89 ?_
                refine lv_goto (tgt := 95) hx hb dX9_soonest_90 (by decide) ?_
                have hm : ixN (x1 + u.2.2 8 (nI k - 1).toNatClampNeg) 1501 := way_add hI hx1 (ix_pred3 cz hk)
                refine lx_iald (v := u.2.2 8 (((nI k) - 1).toNatClampNeg)) hx hb hE.1 hP 5 0 rfl rfl ((ix_pred3 cz hk).inn hI.nB.2 (by omega)) (rfl) dX9_soonest_95 ?_
                refine lx_iadd (v := x1 + (u.2.2 8 (((nI k) - 1).toNatClampNeg))) hx hb (rfl) dX9_soonest_96 ?_
                refine lv_istore (lv' := [(4, .int (x1 + (u.2.2 8 (((nI k) - 1).toNatClampNeg)))), (6, .int (nI k)), (5, .int (nI k)), (0, .ref (a 45)), (1, .int hg), (2, .int up), (3, .int fr)]) hx hb dX9_soonest_97 hl (by decide) rfl (fun ls hl => ?_)
                refine lv_aload_n hx hb dX9_soonest_99 rfl (lv_at hl 3 rfl) ?_
                refine lv_iload_n hx hb dX9_soonest_100 rfl (lv_at hl 4 rfl) ?_
                refine lv_iload hx hb dX9_soonest_101 (lv_at hl 1 rfl) ?_
                refine lv_iload hx hb dX9_soonest_103 (lv_at hl 0 rfl) ?_
                refine sf_calli (va_runV (As := [.int hg, .int (nI k), .int (x1 + (u.2.2 8 (((nI k) - 1).toNatClampNeg)))]) (rest := []) ⟨hx, hb, hml, hown, hts⟩ (m_soonestAt l D cI cZ cB cO cJ a0 H.size a _ _ _ _ _  (sg u 0 0) hg (nI k) (x1 + (u.2.2 8 (((nI k) - 1).toNatClampNeg))) (hI0) (hbx) (hm)) (cwV 3 hts gX9_soonest_X9_soonestAt rfl rfl rfl (by decide +kernel) ⟨Nat.le_of_ble_eq_true rfl, Nat.le_of_ble_eq_true rfl⟩) (preV_full hE hZ hA hS hP hD (va_recv hE.1 hP (ci := 10) (q0 := 0) rfl rfl)) rfl rfl hl.1 rfl (lv_room (Nat.le_of_ble_eq_true rfl)) dX9_soonest_105 ⟨Nat.le_of_ble_eq_true rfl, Nat.le_of_ble_eq_true rfl⟩) hP hD hS hA (fun r9 u9 H locs hw hP hD hS => ?_)
                subst hw
                have hP : va_P D vwCl (WM cI cZ cB a (sg u 0 0)) H := hP
                have hD : va_D A (WM cI cZ cB a (sg u 0 0)) := hD
                refine lv_istore (lv' := [(4, .int (f_soonestAt (sg u 0 0) hg (nI k) (x1 + (u.2.2 8 (((nI k) - 1).toNatClampNeg))))), (6, .int (nI k)), (5, .int (nI k)), (0, .ref (a 45)), (1, .int hg), (2, .int up), (3, .int fr)]) hx hb dX9_soonest_108 hl (by decide) rfl (fun ls hl => ?_)
                refine lv_iload hx hb dX9_soonest_110 (lv_at hl 0 rfl) ?_
                refine lv_if_ge (tgt := 117) hx hb dX9_soonest_112 (by decide) (fun cp => ?_) (fun cp => ?_)
                · replace hf := hf.trans (if_pos cp)
                  have hx2 := (soon_ix (u := sg u 0 0) (hg := hg) (b := nI k) hm).resolve_left (fun e9 => by rw [e9] at cp; exact absurd cp (by decide))
                  refine lv_iinc (v := nI (k + 1)) (lv' := [(5, .int (nI (k + 1))), (4, .int (f_soonestAt (sg u 0 0) hg (nI k) (x1 + (u.2.2 8 (((nI k) - 1).toNatClampNeg))))), (6, .int (nI k)), (0, .ref (a 45)), (1, .int hg), (2, .int up), (3, .int fr)]) hx hb dX9_soonest_117 hl (k := 2) rfl (by first | exact nI_add _ _ | rfl) (by decide) rfl (fun ls hl => ?_)
                  refine lv_goto (tgt := 42) hx hb dX9_soonest_120 (by decide) ?_
                  exact ih_lp_soonest _ _ _ ⟨(f_soonestAt (sg u 0 0) hg (nI k) (x1 + (u.2.2 8 (((nI k) - 1).toNatClampNeg)))), (k + 1), (by omega), (by omega), (hx2.mono (by omega)), hP, hD, hS, (lv_sub hl [1, 0, 3, 4, 5, 6] rfl), hf⟩
                · replace hf := hf.trans (if_neg cp)
                  refine lv_iconst (v := -1) hx hb dX9_soonest_115 (by decide) ?_
                  exact ss_iret () hx hb hr hlocks (by rw [hf]; exact hP) (by rw [hf]; exact hD) hS (by rw [hf]) (Nat.le_of_ble_eq_true rfl) (Nat.le_of_ble_eq_true rfl) dX9_soonest_116
      · replace hf := hf.trans (if_pos cin)
        refine lv_iconst (v := -1) hx hb dX9_soonest_34 (by decide) ?_
        exact ss_iret () hx hb hr hlocks (by rw [hf]; exact hP) (by rw [hf]; exact hD) hS (by rw [hf]) (Nat.le_of_ble_eq_true rfl) (Nat.le_of_ble_eq_true rfl) dX9_soonest_35
def TI (zt : Nat) (u : RS) : Prop := (u.1 3 = nI zt ∧ zt ≤ 440) ∧ ∃ i : Nat, u.1 4 = nI i ∧ i ≤ zt
def f_peek (u : RS) : Int32 := (if u.1 3 ≤ u.1 4 then (-1) else ((u.2.2 1 ((u.1 4).toNatClampNeg)) &&& 255))
theorem f_peek_s (u : RS) : f_peek u = (if u.1 3 ≤ u.1 4 then (-1) else ((u.2.2 1 ((u.1 4).toNatClampNeg)) &&& 255)) := rfl
theorem im_X9_peek_X9 : ∀ w ∈ wsX90, w ∈ wsX9_peek := fun _ h => List.mem_cons_of_mem _ (List.mem_append_right _ h)
set_option maxHeartbeats 400000 in
set_option maxRecDepth 100000 in
theorem m_peek (l : Launch) (D : va_G) (cI cZ cB cO cJ : ClassId) (a0 sz : Nat) (a : Nat → Nat) (zt : Nat) (u : RS) (hT : TI zt u) : Met l yX9_peek wsX9_peek ({ frames := 0, cells := 0, slots := 0, locals := 0 }) (Pcs D cI cZ cB cO cJ a0 [.ref (a 45)] (WM cI cZ cB a u) sz) (va_Qi (fun (r : Int32) (_ : Unit) => r = f_peek u) (fun (_ : Unit) t => va_P D vwCl (WM cI cZ cB a u) t.heap ∧ va_D (va_A (WM cI cZ cB a u) sz) (WM cI cZ cB a u)) (va_A (WM cI cZ cB a u) sz)) 0 0 (va_A (WM cI cZ cB a u) sz) := by
  refine Met.ofW (cc := cX9_peek) (maxL := 1) (ret := (some .int)) (by decide) rfl ?_
  intro p e s m args below meth c s₁ B hml hv
  obtain ⟨rfl, hsz, hP, hE, hD0, hZ⟩ := hv
  have hx := B.exec
  have hb := B.bytes
  have hr := B.returns
  have hts := atoms_spec (ws := wsX9_peek) B.pre
  have hown : s.vm.findClass RX9 = some m.cls := findClass_of_methodNamed B.named
  have hlocks := B.notSynchronized
  subst hsz
  have hD := hD0.self (sz := s.heap.size)
  generalize hAe : va_A (WM cI cZ cB a u) s.heap.size = A at hD hZ ⊢
  have hA : ∀ q : Nat, s.heap.size ≤ q → A q := fun q h => by rw [← hAe]; exact Or.inr h
  clear hAe
  have hS : va_S A s.heap s.heap [] := va_S.rf
  have hP : va_P D vwCl (WM cI cZ cB a u) s.heap := hP
  have hl := lv_entry ([.ref (a 45)]) (n := 1) (Nat.le_of_ble_eq_true rfl)
  rw [lg_entry_eq]
  generalize (lg_sl ([.ref (a 45)]) ++ List.replicate (1 - (lg_sl ([.ref (a 45)])).length) Slot.unset).toArray = ls at hl ⊢
  have hl : lv_has ls 1 [(0, .ref (a 45))] := hl
  have hf := f_peek_s u
  refine lv_aload_n hx hb dX9_peek_0 rfl (lv_at hl 0 rfl) ?_
  refine va_get (D := D) (ci := 10) (v := .int (u.1 4)) (C := RX9) (T := TX9) (N := 45) hx hb hts im_X9_peek_X9 hown hE.1 hP 0 rfl rfl 4 (by decide) (hts (.fieldLink RX9 116 "RiverBridgesModel" "p" "I") (by decide +kernel)) (fun _ h9 => h9) rfl dX9_peek_1 ?_
  refine lv_aload_n hx hb dX9_peek_4 rfl (lv_at hl 0 rfl) ?_
  refine va_get (D := D) (ci := 10) (v := .int (u.1 3)) (C := RX9) (T := TX9) (N := 45) hx hb hts im_X9_peek_X9 hown hE.1 hP 0 rfl rfl 3 (by decide) (hts (.fieldLink RX9 113 "RiverBridgesModel" "size" "I") (by decide +kernel)) (fun _ h9 => h9) rfl dX9_peek_5 ?_
  refine lv_icmp_ge (tgt := 27) hx hb dX9_peek_8 (by decide) (fun ck => ?_) (fun ck => ?_)
  · replace hf := hf.trans (if_pos ck)
    refine lv_iconst (v := -1) hx hb dX9_peek_27 (by decide) ?_
    exact ss_iret () hx hb hr hlocks hP hD hS (by rw [hf]) (Nat.le_of_ble_eq_true rfl) (Nat.le_of_ble_eq_true rfl) dX9_peek_28
  · replace hf := hf.trans (if_neg ck)
    obtain ⟨⟨es, hs⟩, i, ei, hi⟩ := hT
    have hlt : i < zt := by rw [ei] at ck; exact nltI es (by omega) (by omega) ck
    have i1 : vp_in (u.1 4) 440 := by rw [ei]; exact vp_in_nI (by omega) (by omega)
    refine lv_aload_n hx hb dX9_peek_11 rfl (lv_at hl 0 rfl) ?_
    refine va_get (D := D) (ci := 10) (v := .ref (a 1)) (C := RX9) (T := TX9) (N := 45) hx hb hts im_X9_peek_X9 hown hE.1 hP 0 rfl rfl 1 (by decide) (hts (.fieldLink RX9 7 "RiverBridgesModel" "tape" "[B") (by decide +kernel)) (fun _ h9 => h9) rfl dX9_peek_12 ?_
    refine lv_aload_n hx hb dX9_peek_15 rfl (lv_at hl 0 rfl) ?_
    refine va_get (D := D) (ci := 10) (v := .int (u.1 4)) (C := RX9) (T := TX9) (N := 45) hx hb hts im_X9_peek_X9 hown hE.1 hP 0 rfl rfl 4 (by decide) (hts (.fieldLink RX9 116 "RiverBridgesModel" "p" "I") (by decide +kernel)) (fun _ h9 => h9) rfl dX9_peek_16 ?_
    refine lx_bald (v := u.2.2 1 ((u.1 4).toNatClampNeg)) hx hb hE.1 hP 1 2 rfl rfl (by assumption) (rfl) dX9_peek_19 ?_
    refine lv_sipush (v := 255) hx hb dX9_peek_20 (by decide) ?_
    refine lx_iand (v := (u.2.2 1 ((u.1 4).toNatClampNeg)) &&& 255) hx hb (rfl) dX9_peek_23 ?_
    refine lv_goto (tgt := 28) hx hb dX9_peek_24 (by decide) ?_
    exact ss_iret () hx hb hr hlocks hP hD hS (by rw [hf]) (Nat.le_of_ble_eq_true rfl) (Nat.le_of_ble_eq_true rfl) dX9_peek_28
theorem peek_lt {sz i : Nat} {u : RS} (es : u.1 3 = nI sz) (hs : sz ≤ 440) (ei : u.1 4 = nI i) (hi : i ≤ sz) (h : ¬ f_peek u = -1) : i < sz := by
  rw [f_peek_s] at h
  by_cases c : u.1 3 ≤ u.1 4
  · rw [if_pos c] at h; exact absurd rfl h
  · rw [ei] at c; exact nltI es (by omega) (by omega) c
theorem TI_sg {sz : Nat} {u : RS} (h : TI sz u) {k : Nat} {v : Int32} (hk : k ≠ 3 ∧ k ≠ 4) : TI sz (sg u k v) := by
  unfold TI at h ⊢
  simp only [sg]
  rw [pk_un (j := 3) (fun e => hk.1 e.symm), pk_un (j := 4) (fun e => hk.2 e.symm)]
  exact h
theorem TI_sw {sz : Nat} {u : RS} (h : TI sz u) {w : Int64} : TI sz (sw u w) := h
theorem TI_sa {sz : Nat} {u : RS} (h : TI sz u) {k i : Nat} {v : Int32} : TI sz (sa u k i v) := h
theorem TI_4 {sz i : Nat} {u : RS} {v : Int32} (h : TI sz u) (hv : v = nI i) (hi : i ≤ sz) : TI sz (sg u 4 v) := ⟨h.1, i, hv, hi⟩
def f_wrong (u : RS) (kd : Int32) (wh : Int32) : Int32 × RS := (0, (sg (sg u 27 kd) 28 wh))
theorem f_wrong_s (u : RS) (kd : Int32) (wh : Int32) : f_wrong u kd wh = (0, (sg (sg u 27 kd) 28 wh)) := rfl
theorem im_X9_wrong_X9 : ∀ w ∈ wsX90, w ∈ wsX9_wrong := fun _ h => List.mem_cons_of_mem _ (List.mem_append_right _ h)
set_option maxHeartbeats 400000 in
set_option maxRecDepth 100000 in
theorem m_wrong (l : Launch) (D : va_G) (cI cZ cB cO cJ : ClassId) (a0 sz : Nat) (a : Nat → Nat)  (u : RS) (kd : Int32) (wh : Int32) : Met l yX9_wrong wsX9_wrong ({ frames := 0, cells := 0, slots := 0, locals := 0 }) (Pcs D cI cZ cB cO cJ a0 [.ref (a 45), .int kd, .int wh] (WM cI cZ cB a u) sz) (va_Qi (fun (r : Int32) (_ : Unit) => r = (f_wrong u kd wh).1) (fun (_ : Unit) t => va_P D vwCl (WM cI cZ cB a (f_wrong u kd wh).2) t.heap ∧ va_D (va_A (WM cI cZ cB a u) sz) (WM cI cZ cB a (f_wrong u kd wh).2)) (va_A (WM cI cZ cB a u) sz)) 0 0 (va_A (WM cI cZ cB a u) sz) := by
  refine Met.ofW (cc := cX9_wrong) (maxL := 3) (ret := (some .boolean)) (by decide) rfl ?_
  intro p e s m args below meth c s₁ B hml hv
  obtain ⟨rfl, hsz, hP, hE, hD0, hZ⟩ := hv
  have hx := B.exec
  have hb := B.bytes
  have hr := B.returns
  have hts := atoms_spec (ws := wsX9_wrong) B.pre
  have hown : s.vm.findClass RX9 = some m.cls := findClass_of_methodNamed B.named
  have hlocks := B.notSynchronized
  subst hsz
  have hD := hD0.self (sz := s.heap.size)
  generalize hAe : va_A (WM cI cZ cB a u) s.heap.size = A at hD hZ ⊢
  have hA : ∀ q : Nat, s.heap.size ≤ q → A q := fun q h => by rw [← hAe]; exact Or.inr h
  clear hAe
  have hS : va_S A s.heap s.heap [] := va_S.rf
  have hP : va_P D vwCl (WM cI cZ cB a u) s.heap := hP
  have hl := lv_entry ([.ref (a 45), .int kd, .int wh]) (n := 3) (Nat.le_of_ble_eq_true rfl)
  rw [lg_entry_eq]
  generalize (lg_sl ([.ref (a 45), .int kd, .int wh]) ++ List.replicate (3 - (lg_sl ([.ref (a 45), .int kd, .int wh])).length) Slot.unset).toArray = ls at hl ⊢
  have hl : lv_has ls 3 [(0, .ref (a 45)), (1, .int kd), (2, .int wh)] := hl
  have hf := f_wrong_s u kd wh
  refine lv_aload_n hx hb dX9_wrong_0 rfl (lv_at hl 0 rfl) ?_
  refine lv_iload_n hx hb dX9_wrong_1 rfl (lv_at hl 1 rfl) ?_
  refine va_put (D := D) (ci := 10) (v := .int kd) (ty := .int) (C := RX9) (T := TX9) (N := 45) hx hb hts im_X9_wrong_X9 tyX9 tyX9_ok nmX9 hown hE.1 hP hD hS 0 rfl rfl 27 (by decide) (hts (.fieldLink RX9 160 "RiverBridgesModel" "fault" "I") (by decide +kernel)) (fun _ h9 => h9) rfl (by decide +kernel) rfl rfl (Nat.le_of_ble_eq_true rfl) dX9_wrong_2 (fun H locs hP hD hS => ?_)
  have hP := va_P_eq (WM_g27 cI cZ cB a u kd) hP
  have hD := va_D_eq (WM_g27 cI cZ cB a u kd) hD
  refine lv_aload_n hx hb dX9_wrong_5 rfl (lv_at hl 0 rfl) ?_
  refine lv_iload_n hx hb dX9_wrong_6 rfl (lv_at hl 2 rfl) ?_
  refine va_put (D := D) (ci := 10) (v := .int wh) (ty := .int) (C := RX9) (T := TX9) (N := 45) hx hb hts im_X9_wrong_X9 tyX9 tyX9_ok nmX9 hown hE.1 hP hD hS 0 rfl rfl 28 (by decide) (hts (.fieldLink RX9 163 "RiverBridgesModel" "faultAt" "I") (by decide +kernel)) (fun _ h9 => h9) rfl (by decide +kernel) rfl rfl (Nat.le_of_ble_eq_true rfl) dX9_wrong_7 (fun H locs hP hD hS => ?_)
  have hP := va_P_eq (WM_g28 cI cZ cB a (sg u 27 kd) wh) hP
  have hD := va_D_eq (WM_g28 cI cZ cB a (sg u 27 kd) wh) hD
  refine lv_iconst (v := 0) hx hb dX9_wrong_10 (by decide) ?_
  exact ss_zret () hx hb hr hlocks (by decide) (by rw [hf]; exact hP) (by rw [hf]; exact hD) hS (by rw [hf]) (Nat.le_of_ble_eq_true rfl) (Nat.le_of_ble_eq_true rfl) dX9_wrong_11
def f_cant (u : RS) : Int32 × RS := (if u.1 24 = 4 then ((f_wrong u 1 (u.1 25)).1, (f_wrong u 1 (u.1 25)).2) else ((f_wrong u 2 (u.1 25)).1, (f_wrong u 2 (u.1 25)).2))
theorem f_cant_s (u : RS) : f_cant u = (if u.1 24 = 4 then ((f_wrong u 1 (u.1 25)).1, (f_wrong u 1 (u.1 25)).2) else ((f_wrong u 2 (u.1 25)).1, (f_wrong u 2 (u.1 25)).2)) := rfl
theorem im_X9_cant_X9 : ∀ w ∈ wsX90, w ∈ wsX9_cant := fun _ h => List.mem_cons_of_mem _ (List.mem_append_right _ h)
set_option maxHeartbeats 400000 in
set_option maxRecDepth 100000 in
theorem m_cant (l : Launch) (D : va_G) (cI cZ cB cO cJ : ClassId) (a0 sz : Nat) (a : Nat → Nat)  (u : RS) : Met l yX9_cant wsX9_cant ({ frames := 1, cells := 0, slots := 0, locals := 22 }) (Pcs D cI cZ cB cO cJ a0 [.ref (a 45)] (WM cI cZ cB a u) sz) (va_Qi (fun (r : Int32) (_ : Unit) => r = (f_cant u).1) (fun (_ : Unit) t => va_P D vwCl (WM cI cZ cB a (f_cant u).2) t.heap ∧ va_D (va_A (WM cI cZ cB a u) sz) (WM cI cZ cB a (f_cant u).2)) (va_A (WM cI cZ cB a u) sz)) 0 0 (va_A (WM cI cZ cB a u) sz) := by
  refine Met.ofW (cc := cX9_cant) (maxL := 1) (ret := (some .boolean)) (by decide) rfl ?_
  intro p e s m args below meth c s₁ B hml hv
  obtain ⟨rfl, hsz, hP, hE, hD0, hZ⟩ := hv
  have hx := B.exec
  have hb := B.bytes
  have hr := B.returns
  have hts := atoms_spec (ws := wsX9_cant) B.pre
  have hown : s.vm.findClass RX9 = some m.cls := findClass_of_methodNamed B.named
  have hlocks := B.notSynchronized
  subst hsz
  have hD := hD0.self (sz := s.heap.size)
  generalize hAe : va_A (WM cI cZ cB a u) s.heap.size = A at hD hZ ⊢
  have hA : ∀ q : Nat, s.heap.size ≤ q → A q := fun q h => by rw [← hAe]; exact Or.inr h
  clear hAe
  have hS : va_S A s.heap s.heap [] := va_S.rf
  have hP : va_P D vwCl (WM cI cZ cB a u) s.heap := hP
  have hl := lv_entry ([.ref (a 45)]) (n := 1) (Nat.le_of_ble_eq_true rfl)
  rw [lg_entry_eq]
  generalize (lg_sl ([.ref (a 45)]) ++ List.replicate (1 - (lg_sl ([.ref (a 45)])).length) Slot.unset).toArray = ls at hl ⊢
  have hl : lv_has ls 1 [(0, .ref (a 45))] := hl
  have hf := f_cant_s u
  refine lv_aload_n hx hb dX9_cant_0 rfl (lv_at hl 0 rfl) ?_
  refine lv_aload_n hx hb dX9_cant_1 rfl (lv_at hl 0 rfl) ?_
  refine va_get (D := D) (ci := 10) (v := .int (u.1 24)) (C := RX9) (T := TX9) (N := 45) hx hb hts im_X9_cant_X9 hown hE.1 hP 0 rfl rfl 24 (by decide) (hts (.fieldLink RX9 143 "RiverBridgesModel" "token" "I") (by decide +kernel)) (fun _ h9 => h9) rfl dX9_cant_2 ?_
  refine lv_iconst (v := 4) hx hb dX9_cant_5 (by decide) ?_
  refine lv_icmp_ne (tgt := 13) hx hb dX9_cant_6 (by decide) (fun c1 => ?_) (fun c1 => ?_)
  · replace hf := hf.trans (if_neg c1)
    refine lv_iconst (v := 2) hx hb dX9_cant_13 (by decide) ?_
    refine lv_aload_n hx hb dX9_cant_14 rfl (lv_at hl 0 rfl) ?_
    refine va_get (D := D) (ci := 10) (v := .int (u.1 25)) (C := RX9) (T := TX9) (N := 45) hx hb hts im_X9_cant_X9 hown hE.1 hP 0 rfl rfl 25 (by decide) (hts (.fieldLink RX9 140 "RiverBridgesModel" "at" "I") (by decide +kernel)) (fun _ h9 => h9) rfl dX9_cant_15 ?_
    refine sf_calli (va_runV (As := [.int 2, .int (u.1 25)]) (rest := []) ⟨hx, hb, hml, hown, hts⟩ (m_wrong l D cI cZ cB cO cJ a0 s.heap.size a  u 2 (u.1 25) ) (cwV 2 hts gX9_cant_X9_wrong rfl rfl rfl (by decide +kernel) ⟨Nat.le_of_ble_eq_true rfl, Nat.le_of_ble_eq_true rfl⟩) (preV_full hE hZ hA hS hP hD (va_recv hE.1 hP (ci := 10) (q0 := 0) rfl rfl)) rfl rfl hl.1 rfl (lv_room (Nat.le_of_ble_eq_true rfl)) dX9_cant_18 ⟨Nat.le_of_ble_eq_true rfl, Nat.le_of_ble_eq_true rfl⟩) hP hD hS hA (fun r9 u9 H locs hw hP hD hS => ?_)
    subst hw
    have hP : va_P D vwCl (WM cI cZ cB a ((f_wrong u 2 (u.1 25)).2)) H := hP
    have hD : va_D A (WM cI cZ cB a ((f_wrong u 2 (u.1 25)).2)) := hD
    exact ss_zret () hx hb hr hlocks (nar01 (Or.inl (by rw [f_wrong_s]))) (by rw [hf]; exact hP) (by rw [hf]; exact hD) hS (by rw [hf]) (Nat.le_of_ble_eq_true rfl) (Nat.le_of_ble_eq_true rfl) dX9_cant_21
  · replace hf := hf.trans (if_pos c1)
    refine lv_iconst (v := 1) hx hb dX9_cant_9 (by decide) ?_
    refine lv_goto (tgt := 14) hx hb dX9_cant_10 (by decide) ?_
    refine lv_aload_n hx hb dX9_cant_14 rfl (lv_at hl 0 rfl) ?_
    refine va_get (D := D) (ci := 10) (v := .int (u.1 25)) (C := RX9) (T := TX9) (N := 45) hx hb hts im_X9_cant_X9 hown hE.1 hP 0 rfl rfl 25 (by decide) (hts (.fieldLink RX9 140 "RiverBridgesModel" "at" "I") (by decide +kernel)) (fun _ h9 => h9) rfl dX9_cant_15 ?_
    refine sf_calli (va_runV (As := [.int 1, .int (u.1 25)]) (rest := []) ⟨hx, hb, hml, hown, hts⟩ (m_wrong l D cI cZ cB cO cJ a0 s.heap.size a  u 1 (u.1 25) ) (cwV 2 hts gX9_cant_X9_wrong rfl rfl rfl (by decide +kernel) ⟨Nat.le_of_ble_eq_true rfl, Nat.le_of_ble_eq_true rfl⟩) (preV_full hE hZ hA hS hP hD (va_recv hE.1 hP (ci := 10) (q0 := 0) rfl rfl)) rfl rfl hl.1 rfl (lv_room (Nat.le_of_ble_eq_true rfl)) dX9_cant_18 ⟨Nat.le_of_ble_eq_true rfl, Nat.le_of_ble_eq_true rfl⟩) hP hD hS hA (fun r9 u9 H locs hw hP hD hS => ?_)
    subst hw
    have hP : va_P D vwCl (WM cI cZ cB a ((f_wrong u 1 (u.1 25)).2)) H := hP
    have hD : va_D A (WM cI cZ cB a ((f_wrong u 1 (u.1 25)).2)) := hD
    exact ss_zret () hx hb hr hlocks (nar01 (Or.inl (by rw [f_wrong_s]))) (by rw [hf]; exact hP) (by rw [hf]; exact hD) hS (by rw [hf]) (Nat.le_of_ble_eq_true rfl) (Nat.le_of_ble_eq_true rfl) dX9_cant_21
def f_isWord (u : RS) (wd : Int64) : Int32 := (if u.1 24 = 1 then (if lg_cmp u.2.1 wd = 0 then 1 else 0) else 0)
theorem f_isWord_s (u : RS) (wd : Int64) : f_isWord u wd = (if u.1 24 = 1 then (if lg_cmp u.2.1 wd = 0 then 1 else 0) else 0) := rfl
theorem im_X9_isWord_X9 : ∀ w ∈ wsX90, w ∈ wsX9_isWord := fun _ h => List.mem_cons_of_mem _ (List.mem_append_right _ h)
set_option maxHeartbeats 400000 in
set_option maxRecDepth 100000 in
theorem m_isWord (l : Launch) (D : va_G) (cI cZ cB cO cJ : ClassId) (a0 sz : Nat) (a : Nat → Nat)  (u : RS) (wd : Int64) : Met l yX9_isWord wsX9_isWord ({ frames := 0, cells := 0, slots := 0, locals := 0 }) (Pcs D cI cZ cB cO cJ a0 [.ref (a 45), .long wd] (WM cI cZ cB a u) sz) (va_Qi (fun (r : Int32) (_ : Unit) => r = f_isWord u wd) (fun (_ : Unit) t => va_P D vwCl (WM cI cZ cB a u) t.heap ∧ va_D (va_A (WM cI cZ cB a u) sz) (WM cI cZ cB a u)) (va_A (WM cI cZ cB a u) sz)) 0 0 (va_A (WM cI cZ cB a u) sz) := by
  refine Met.ofW (cc := cX9_isWord) (maxL := 3) (ret := (some .boolean)) (by decide) rfl ?_
  intro p e s m args below meth c s₁ B hml hv
  obtain ⟨rfl, hsz, hP, hE, hD0, hZ⟩ := hv
  have hx := B.exec
  have hb := B.bytes
  have hr := B.returns
  have hts := atoms_spec (ws := wsX9_isWord) B.pre
  have hown : s.vm.findClass RX9 = some m.cls := findClass_of_methodNamed B.named
  have hlocks := B.notSynchronized
  subst hsz
  have hD := hD0.self (sz := s.heap.size)
  generalize hAe : va_A (WM cI cZ cB a u) s.heap.size = A at hD hZ ⊢
  have hA : ∀ q : Nat, s.heap.size ≤ q → A q := fun q h => by rw [← hAe]; exact Or.inr h
  clear hAe
  have hS : va_S A s.heap s.heap [] := va_S.rf
  have hP : va_P D vwCl (WM cI cZ cB a u) s.heap := hP
  have hl := lv_entry ([.ref (a 45), .long wd]) (n := 3) (Nat.le_of_ble_eq_true rfl)
  rw [lg_entry_eq]
  generalize (lg_sl ([.ref (a 45), .long wd]) ++ List.replicate (3 - (lg_sl ([.ref (a 45), .long wd])).length) Slot.unset).toArray = ls at hl ⊢
  have hl : lv_has ls 3 [(0, .ref (a 45)), (1, .long wd)] := hl
  have hf := f_isWord_s u wd
  refine lv_aload_n hx hb dX9_isWord_0 rfl (lv_at hl 0 rfl) ?_
  refine va_get (D := D) (ci := 10) (v := .int (u.1 24)) (C := RX9) (T := TX9) (N := 45) hx hb hts im_X9_isWord_X9 hown hE.1 hP 0 rfl rfl 24 (by decide) (hts (.fieldLink RX9 143 "RiverBridgesModel" "token" "I") (by decide +kernel)) (fun _ h9 => h9) rfl dX9_isWord_1 ?_
  refine lv_iconst (v := 1) hx hb dX9_isWord_4 (by decide) ?_
  refine lv_icmp_ne (tgt := 21) hx hb dX9_isWord_5 (by decide) (fun c1 => ?_) (fun c1 => ?_)
  · replace hf := hf.trans (if_neg c1)
    refine lv_iconst (v := 0) hx hb dX9_isWord_21 (by decide) ?_
    exact ss_zret () hx hb hr hlocks (by decide) hP hD hS (by rw [hf]) (Nat.le_of_ble_eq_true rfl) (Nat.le_of_ble_eq_true rfl) dX9_isWord_22
  · replace hf := hf.trans (if_pos c1)
    refine lv_aload_n hx hb dX9_isWord_8 rfl (lv_at hl 0 rfl) ?_
    refine va_get (D := D) (ci := 10) (v := .long u.2.1) (C := RX9) (T := TX9) (N := 45) hx hb hts im_X9_isWord_X9 hown hE.1 hP 0 rfl rfl 30 (by decide) (hts (.fieldLink RX9 153 "RiverBridgesModel" "word" "J") (by decide +kernel)) (fun _ h9 => h9) rfl dX9_isWord_9 ?_
    refine lv_lload_n hx hb dX9_isWord_12 rfl (lv_at hl 1 rfl) ?_
    refine W.lcmp hx hb dX9_isWord_13 ?_
    refine lv_if_ne (tgt := 21) hx hb dX9_isWord_14 (by decide) (fun c2 => ?_) (fun c2 => ?_)
    · replace hf := hf.trans (if_neg c2)
      refine lv_iconst (v := 0) hx hb dX9_isWord_21 (by decide) ?_
      exact ss_zret () hx hb hr hlocks (by decide) hP hD hS (by rw [hf]) (Nat.le_of_ble_eq_true rfl) (Nat.le_of_ble_eq_true rfl) dX9_isWord_22
    · replace hf := hf.trans (if_pos c2)
      refine lv_iconst (v := 1) hx hb dX9_isWord_17 (by decide) ?_
      refine lv_goto (tgt := 22) hx hb dX9_isWord_18 (by decide) ?_
      exact ss_zret () hx hb hr hlocks (by decide) hP hD hS (by rw [hf]) (Nat.le_of_ble_eq_true rfl) (Nat.le_of_ble_eq_true rfl) dX9_isWord_22
def f_isEnd (u : RS) : Int32 := (if u.1 24 = 0 then (if u.1 3 ≤ 400 then 1 else (if u.1 25 = 400 then 0 else 1)) else 0)
theorem f_isEnd_s (u : RS) : f_isEnd u = (if u.1 24 = 0 then (if u.1 3 ≤ 400 then 1 else (if u.1 25 = 400 then 0 else 1)) else 0) := rfl
theorem im_X9_isEnd_X9 : ∀ w ∈ wsX90, w ∈ wsX9_isEnd := fun _ h => List.mem_cons_of_mem _ (List.mem_append_right _ h)
set_option maxHeartbeats 400000 in
set_option maxRecDepth 100000 in
theorem m_isEnd (l : Launch) (D : va_G) (cI cZ cB cO cJ : ClassId) (a0 sz : Nat) (a : Nat → Nat)  (u : RS) : Met l yX9_isEnd wsX9_isEnd ({ frames := 0, cells := 0, slots := 0, locals := 0 }) (Pcs D cI cZ cB cO cJ a0 [.ref (a 45)] (WM cI cZ cB a u) sz) (va_Qi (fun (r : Int32) (_ : Unit) => r = f_isEnd u) (fun (_ : Unit) t => va_P D vwCl (WM cI cZ cB a u) t.heap ∧ va_D (va_A (WM cI cZ cB a u) sz) (WM cI cZ cB a u)) (va_A (WM cI cZ cB a u) sz)) 0 0 (va_A (WM cI cZ cB a u) sz) := by
  refine Met.ofW (cc := cX9_isEnd) (maxL := 1) (ret := (some .boolean)) (by decide) rfl ?_
  intro p e s m args below meth c s₁ B hml hv
  obtain ⟨rfl, hsz, hP, hE, hD0, hZ⟩ := hv
  have hx := B.exec
  have hb := B.bytes
  have hr := B.returns
  have hts := atoms_spec (ws := wsX9_isEnd) B.pre
  have hown : s.vm.findClass RX9 = some m.cls := findClass_of_methodNamed B.named
  have hlocks := B.notSynchronized
  subst hsz
  have hD := hD0.self (sz := s.heap.size)
  generalize hAe : va_A (WM cI cZ cB a u) s.heap.size = A at hD hZ ⊢
  have hA : ∀ q : Nat, s.heap.size ≤ q → A q := fun q h => by rw [← hAe]; exact Or.inr h
  clear hAe
  have hS : va_S A s.heap s.heap [] := va_S.rf
  have hP : va_P D vwCl (WM cI cZ cB a u) s.heap := hP
  have hl := lv_entry ([.ref (a 45)]) (n := 1) (Nat.le_of_ble_eq_true rfl)
  rw [lg_entry_eq]
  generalize (lg_sl ([.ref (a 45)]) ++ List.replicate (1 - (lg_sl ([.ref (a 45)])).length) Slot.unset).toArray = ls at hl ⊢
  have hl : lv_has ls 1 [(0, .ref (a 45))] := hl
  have hf := f_isEnd_s u
  refine lv_aload_n hx hb dX9_isEnd_0 rfl (lv_at hl 0 rfl) ?_
  refine va_get (D := D) (ci := 10) (v := .int (u.1 24)) (C := RX9) (T := TX9) (N := 45) hx hb hts im_X9_isEnd_X9 hown hE.1 hP 0 rfl rfl 24 (by decide) (hts (.fieldLink RX9 143 "RiverBridgesModel" "token" "I") (by decide +kernel)) (fun _ h9 => h9) rfl dX9_isEnd_1 ?_
  refine lv_if_ne (tgt := 31) hx hb dX9_isEnd_4 (by decide) (fun c1 => ?_) (fun c1 => ?_)
  · replace hf := hf.trans (if_neg c1)
    refine lv_iconst (v := 0) hx hb dX9_isEnd_31 (by decide) ?_
    exact ss_zret () hx hb hr hlocks (by decide) hP hD hS (by rw [hf]) (Nat.le_of_ble_eq_true rfl) (Nat.le_of_ble_eq_true rfl) dX9_isEnd_32
  · replace hf := hf.trans (if_pos c1)
    refine lv_aload_n hx hb dX9_isEnd_7 rfl (lv_at hl 0 rfl) ?_
    refine va_get (D := D) (ci := 10) (v := .int (u.1 3)) (C := RX9) (T := TX9) (N := 45) hx hb hts im_X9_isEnd_X9 hown hE.1 hP 0 rfl rfl 3 (by decide) (hts (.fieldLink RX9 113 "RiverBridgesModel" "size" "I") (by decide +kernel)) (fun _ h9 => h9) rfl dX9_isEnd_8 ?_
    refine lv_sipush (v := 400) hx hb dX9_isEnd_11 (by decide) ?_
    refine lv_icmp_le (tgt := 27) hx hb dX9_isEnd_14 (by decide) (fun c2 => ?_) (fun c2 => ?_)
    · replace hf := hf.trans (if_pos c2)
      refine lv_iconst (v := 1) hx hb dX9_isEnd_27 (by decide) ?_
      refine lv_goto (tgt := 32) hx hb dX9_isEnd_28 (by decide) ?_
      exact ss_zret () hx hb hr hlocks (by decide) hP hD hS (by rw [hf]) (Nat.le_of_ble_eq_true rfl) (Nat.le_of_ble_eq_true rfl) dX9_isEnd_32
    · replace hf := hf.trans (if_neg c2)
      refine lv_aload_n hx hb dX9_isEnd_17 rfl (lv_at hl 0 rfl) ?_
      refine va_get (D := D) (ci := 10) (v := .int (u.1 25)) (C := RX9) (T := TX9) (N := 45) hx hb hts im_X9_isEnd_X9 hown hE.1 hP 0 rfl rfl 25 (by decide) (hts (.fieldLink RX9 140 "RiverBridgesModel" "at" "I") (by decide +kernel)) (fun _ h9 => h9) rfl dX9_isEnd_18 ?_
      refine lv_sipush (v := 400) hx hb dX9_isEnd_21 (by decide) ?_
      refine lv_icmp_eq (tgt := 31) hx hb dX9_isEnd_24 (by decide) (fun c3 => ?_) (fun c3 => ?_)
      · replace hf := hf.trans (if_pos c3)
        refine lv_iconst (v := 0) hx hb dX9_isEnd_31 (by decide) ?_
        exact ss_zret () hx hb hr hlocks (by decide) hP hD hS (by rw [hf]) (Nat.le_of_ble_eq_true rfl) (Nat.le_of_ble_eq_true rfl) dX9_isEnd_32
      · replace hf := hf.trans (if_neg c3)
        refine lv_iconst (v := 1) hx hb dX9_isEnd_27 (by decide) ?_
        refine lv_goto (tgt := 32) hx hb dX9_isEnd_28 (by decide) ?_
        exact ss_zret () hx hb hr hlocks (by decide) hP hD hS (by rw [hf]) (Nat.le_of_ble_eq_true rfl) (Nat.le_of_ble_eq_true rfl) dX9_isEnd_32
def jn_next5 (q : Nat) (u3 : RS)  : RS := (if 4 ≤ nI q then u3 else (sg u3 26 (((10 * (u3.1 26)) + (f_peek u3)) - 48)))
theorem jn_next5_s (q : Nat) (u3 : RS)  : jn_next5 q u3 = (if 4 ≤ nI q then u3 else (sg u3 26 (((10 * (u3.1 26)) + (f_peek u3)) - 48))) := rfl
def jn_next4 (u2 : RS) (q : Nat)  : RS := (if 7 ≤ nI q then u2 else (sw u2 ((u2.2.1 <<< ((8 : Int32).toInt64 &&& 63)) ||| ((f_peek u2).toInt64))))
theorem jn_next4_s (u2 : RS) (q : Nat)  : jn_next4 u2 q = (if 7 ≤ nI q then u2 else (sw u2 ((u2.2.1 <<< ((8 : Int32).toInt64 &&& 63)) ||| ((f_peek u2).toInt64)))) := rfl
def jn_next3 (u1 : RS) (x3 : Int32) (w1 : RS)  : Int32 := (if x3 = 0 then 0 else (if f_isSmall w1 (f_peek w1) = f_isSmall (sg u1 25 (u1.1 4)) (f_peek (sg u1 25 (u1.1 4))) then 1 else 0))
theorem jn_next3_s (u1 : RS) (x3 : Int32) (w1 : RS)  : jn_next3 u1 x3 w1 = (if x3 = 0 then 0 else (if f_isSmall w1 (f_peek w1) = f_isSmall (sg u1 25 (u1.1 4)) (f_peek (sg u1 25 (u1.1 4))) then 1 else 0)) := rfl
def jn_next6 (u2 : RS) (q : Nat)  : RS := (if nI q ≤ 7 then u2 else (sw u2 0))
theorem jn_next6_s (u2 : RS) (q : Nat)  : jn_next6 u2 q = (if nI q ≤ 7 then u2 else (sw u2 0)) := rfl
def lp_next2 (u1 : RS) : Nat → RS → Int32 → Nat → RS × Int32 × Nat
  | 0, u2, x3, q => (u2, x3, q)
  | n + 1, u2, x3, q => (if f_isSmall u2 (f_peek u2) = 0 then (if f_isDigit u2 (f_peek u2) = 0 then (u2, x3, q) else (lp_next2 u1 n (sg (jn_next5 q (jn_next4 u2 q)) 4 (((jn_next5 q (jn_next4 u2 q)).1 4) + 1)) (jn_next3 u1 x3 u2) (q + 1))) else (lp_next2 u1 n (sg (jn_next5 q (jn_next4 u2 q)) 4 (((jn_next5 q (jn_next4 u2 q)).1 4) + 1)) (jn_next3 u1 x3 u2) (q + 1)))
theorem lp_next2_s (u1 : RS) (n : Nat) (u2 : RS) (x3 : Int32) (q : Nat) : lp_next2 u1 (n + 1) u2 x3 q = (if f_isSmall u2 (f_peek u2) = 0 then (if f_isDigit u2 (f_peek u2) = 0 then (u2, x3, q) else (lp_next2 u1 n (sg (jn_next5 q (jn_next4 u2 q)) 4 (((jn_next5 q (jn_next4 u2 q)).1 4) + 1)) (jn_next3 u1 x3 u2) (q + 1))) else (lp_next2 u1 n (sg (jn_next5 q (jn_next4 u2 q)) 4 (((jn_next5 q (jn_next4 u2 q)).1 4) + 1)) (jn_next3 u1 x3 u2) (q + 1))) := rfl
def jn_next2 (u1 : RS) (w1 : RS)  : RS := (if (lp_next2 u1 442 (sg (sw w1 0) 26 0) 1 0).2.1 = 0 then (sg (jn_next6 (lp_next2 u1 442 (sg (sw w1 0) 26 0) 1 0).1 (lp_next2 u1 442 (sg (sw w1 0) 26 0) 1 0).2.2) 24 4) else (if f_isSmall w1 (f_peek w1) = 0 then (if nI (lp_next2 u1 442 (sg (sw w1 0) 26 0) 1 0).2.2 ≤ 4 then (if f_isSmall w1 (f_peek w1) = 0 then (sg (jn_next6 (lp_next2 u1 442 (sg (sw w1 0) 26 0) 1 0).1 (lp_next2 u1 442 (sg (sw w1 0) 26 0) 1 0).2.2) 24 2) else (sg (jn_next6 (lp_next2 u1 442 (sg (sw w1 0) 26 0) 1 0).1 (lp_next2 u1 442 (sg (sw w1 0) 26 0) 1 0).2.2) 24 1)) else (sg (jn_next6 (lp_next2 u1 442 (sg (sw w1 0) 26 0) 1 0).1 (lp_next2 u1 442 (sg (sw w1 0) 26 0) 1 0).2.2) 24 4)) else (if f_isSmall w1 (f_peek w1) = 0 then (sg (jn_next6 (lp_next2 u1 442 (sg (sw w1 0) 26 0) 1 0).1 (lp_next2 u1 442 (sg (sw w1 0) 26 0) 1 0).2.2) 24 2) else (sg (jn_next6 (lp_next2 u1 442 (sg (sw w1 0) 26 0) 1 0).1 (lp_next2 u1 442 (sg (sw w1 0) 26 0) 1 0).2.2) 24 1))))
theorem jn_next2_s (u1 : RS) (w1 : RS)  : jn_next2 u1 w1 = (if (lp_next2 u1 442 (sg (sw w1 0) 26 0) 1 0).2.1 = 0 then (sg (jn_next6 (lp_next2 u1 442 (sg (sw w1 0) 26 0) 1 0).1 (lp_next2 u1 442 (sg (sw w1 0) 26 0) 1 0).2.2) 24 4) else (if f_isSmall w1 (f_peek w1) = 0 then (if nI (lp_next2 u1 442 (sg (sw w1 0) 26 0) 1 0).2.2 ≤ 4 then (if f_isSmall w1 (f_peek w1) = 0 then (sg (jn_next6 (lp_next2 u1 442 (sg (sw w1 0) 26 0) 1 0).1 (lp_next2 u1 442 (sg (sw w1 0) 26 0) 1 0).2.2) 24 2) else (sg (jn_next6 (lp_next2 u1 442 (sg (sw w1 0) 26 0) 1 0).1 (lp_next2 u1 442 (sg (sw w1 0) 26 0) 1 0).2.2) 24 1)) else (sg (jn_next6 (lp_next2 u1 442 (sg (sw w1 0) 26 0) 1 0).1 (lp_next2 u1 442 (sg (sw w1 0) 26 0) 1 0).2.2) 24 4)) else (if f_isSmall w1 (f_peek w1) = 0 then (sg (jn_next6 (lp_next2 u1 442 (sg (sw w1 0) 26 0) 1 0).1 (lp_next2 u1 442 (sg (sw w1 0) 26 0) 1 0).2.2) 24 2) else (sg (jn_next6 (lp_next2 u1 442 (sg (sw w1 0) 26 0) 1 0).1 (lp_next2 u1 442 (sg (sw w1 0) 26 0) 1 0).2.2) 24 1)))) := rfl
def jn_next1 (u1 : RS) (w1 : RS)  : RS := (if 0 ≤ f_peek w1 then (if f_isSmall w1 (f_peek w1) = 0 then (if f_isDigit w1 (f_peek w1) = 0 then (if f_peek w1 = 59 then (sg (sg w1 24 3) 4 ((u1.1 4) + 1)) else (sg (sg w1 24 4) 4 ((u1.1 4) + 1))) else (jn_next2 u1 w1)) else (jn_next2 u1 w1)) else (sg w1 24 0))
theorem jn_next1_s (u1 : RS) (w1 : RS)  : jn_next1 u1 w1 = (if 0 ≤ f_peek w1 then (if f_isSmall w1 (f_peek w1) = 0 then (if f_isDigit w1 (f_peek w1) = 0 then (if f_peek w1 = 59 then (sg (sg w1 24 3) 4 ((u1.1 4) + 1)) else (sg (sg w1 24 4) 4 ((u1.1 4) + 1))) else (jn_next2 u1 w1)) else (jn_next2 u1 w1)) else (sg w1 24 0)) := rfl
def lp_next1  : Nat → RS → RS
  | 0, u1 => u1
  | n + 1, u1 => (if f_peek u1 = 32 then (lp_next1  n (sg u1 4 ((u1.1 4) + 1))) else (if f_peek u1 = 10 then (lp_next1  n (sg u1 4 ((u1.1 4) + 1))) else u1))
theorem lp_next1_s  (n : Nat) (u1 : RS) : lp_next1  (n + 1) u1 = (if f_peek u1 = 32 then (lp_next1  n (sg u1 4 ((u1.1 4) + 1))) else (if f_peek u1 = 10 then (lp_next1  n (sg u1 4 ((u1.1 4) + 1))) else u1)) := rfl
def f_next (u : RS) : RS := (if (lp_next1  442 u).1 3 ≤ 400 then (jn_next1 (lp_next1  442 u) (sg (lp_next1  442 u) 25 ((lp_next1  442 u).1 4))) else (if (lp_next1  442 u).1 4 < 400 then (jn_next1 (lp_next1  442 u) (sg (lp_next1  442 u) 25 ((lp_next1  442 u).1 4))) else (sg (sg (sg (lp_next1  442 u) 25 ((lp_next1  442 u).1 4)) 25 400) 24 0)))
theorem f_next_s (u : RS) : f_next u = (if (lp_next1  442 u).1 3 ≤ 400 then (jn_next1 (lp_next1  442 u) (sg (lp_next1  442 u) 25 ((lp_next1  442 u).1 4))) else (if (lp_next1  442 u).1 4 < 400 then (jn_next1 (lp_next1  442 u) (sg (lp_next1  442 u) 25 ((lp_next1  442 u).1 4))) else (sg (sg (sg (lp_next1  442 u) 25 ((lp_next1  442 u).1 4)) 25 400) 24 0))) := rfl
theorem im_X9_next_X9 : ∀ w ∈ wsX90, w ∈ wsX9_next := fun _ h => List.mem_cons_of_mem _ (List.mem_append_right _ h)
set_option maxHeartbeats 400000 in
set_option maxRecDepth 100000 in
theorem m_next (l : Launch) (D : va_G) (cI cZ cB cO cJ : ClassId) (a0 sz : Nat) (a : Nat → Nat) (zt : Nat) (u : RS) (hT : TI zt u) : Met l yX9_next wsX9_next ({ frames := 1, cells := 0, slots := 0, locals := 20 }) (Pcs D cI cZ cB cO cJ a0 [.ref (a 45)] (WM cI cZ cB a u) sz) (va_Qv (fun (_ : Unit) => True) (fun (_ : Unit) t => va_P D vwCl (WM cI cZ cB a (f_next u)) t.heap ∧ va_D (va_A (WM cI cZ cB a u) sz) (WM cI cZ cB a (f_next u))) (va_A (WM cI cZ cB a u) sz)) 0 0 (va_A (WM cI cZ cB a u) sz) := by
  refine Met.ofW (cc := cX9_next) (maxL := 5) (ret := none) (by decide) rfl ?_
  intro p e s m args below meth c s₁ B hml hv
  obtain ⟨rfl, hsz, hP, hE, hD0, hZ⟩ := hv
  have hx := B.exec
  have hb := B.bytes
  have hr := B.returns
  have hts := atoms_spec (ws := wsX9_next) B.pre
  have hown : s.vm.findClass RX9 = some m.cls := findClass_of_methodNamed B.named
  have hlocks := B.notSynchronized
  subst hsz
  have hD := hD0.self (sz := s.heap.size)
  generalize hAe : va_A (WM cI cZ cB a u) s.heap.size = A at hD hZ ⊢
  have hA : ∀ q : Nat, s.heap.size ≤ q → A q := fun q h => by rw [← hAe]; exact Or.inr h
  clear hAe
  have hS : va_S A s.heap s.heap [] := va_S.rf
  have hP : va_P D vwCl (WM cI cZ cB a u) s.heap := hP
  have hl := lv_entry ([.ref (a 45)]) (n := 5) (Nat.le_of_ble_eq_true rfl)
  rw [lg_entry_eq]
  generalize (lg_sl ([.ref (a 45)]) ++ List.replicate (5 - (lg_sl ([.ref (a 45)])).length) Slot.unset).toArray = ls at hl ⊢
  have hl : lv_has ls 5 [(0, .ref (a 45))] := hl
  have hf := f_next_s u
  obtain ⟨i0, ei0, hi0⟩ := hT.2
  have hf_lp_next1 := hf
  refine ss_ind (J := fun n H locs ls => ∃ (u1 : RS), (TI zt u1) ∧ (∃ i : Nat, u1.1 4 = nI i ∧ i + n = i0 + 442 ∧ i ≤ zt) ∧ va_P D vwCl (WM cI cZ cB a u1) H ∧ va_D A (WM cI cZ cB a u1) ∧ va_S A s.heap H locs ∧ lv_has ls 5 [(0, .ref (a 45))] ∧ lp_next1  442 u = lp_next1  n u1) ?_ ?_ (442) _ _ _ ⟨u, (hT), (⟨i0, ei0, rfl, hi0⟩), hP, hD, hS, (lv_sub hl [0] rfl), rfl⟩
  all_goals clear hf
  · intro H locs ls hJ
    obtain ⟨u1, hT1, hq, hP, hD, hS, hl, hf⟩ := hJ
    obtain ⟨i, _, h1, h2⟩ := hq; have := hT1.1.2; omega
  · intro n_lp_next1 ih_lp_next1 H locs ls hJ
    obtain ⟨u1, hT1, hq, hP, hD, hS, hl, hf⟩ := hJ
    replace hf := hf.trans (lp_next1_s  n_lp_next1 _)
    obtain ⟨i, ei, hi1, hi2⟩ := hq
    refine lv_aload_n hx hb dX9_next_0 rfl (lv_at hl 0 rfl) ?_
    refine sf_calli (va_runV (As := []) (rest := []) ⟨hx, hb, hml, hown, hts⟩ (m_peek l D cI cZ cB cO cJ a0 H.size a _  u1  (hT1)) (cwV 0 hts gX9_next_X9_peek rfl rfl rfl (by decide +kernel) ⟨Nat.le_of_ble_eq_true rfl, Nat.le_of_ble_eq_true rfl⟩) (preV_full hE hZ hA hS hP hD (va_recv hE.1 hP (ci := 10) (q0 := 0) rfl rfl)) rfl rfl hl.1 rfl (lv_room (Nat.le_of_ble_eq_true rfl)) dX9_next_1 ⟨Nat.le_of_ble_eq_true rfl, Nat.le_of_ble_eq_true rfl⟩) hP hD hS hA (fun r9 u9 H locs hw hP hD hS => ?_)
    subst hw
    have hP : va_P D vwCl (WM cI cZ cB a u1) H := hP
    have hD : va_D A (WM cI cZ cB a u1) := hD
    refine lv_bipush (v := 32) hx hb dX9_next_4 (by decide) ?_
    refine lv_icmp_eq (tgt := 18) hx hb dX9_next_6 (by decide) (fun c32 => ?_) (fun c32 => ?_)
    · replace hf := hf.trans (if_pos c32)
      have hlt : i < zt := peek_lt hT1.1.1 hT1.1.2 ei hi2 (by rw [c32]; decide)
      refine lv_aload_n hx hb dX9_next_18 rfl (lv_at hl 0 rfl) ?_
      refine lv_dup hx hb dX9_next_19 rfl ?_
      refine va_get (D := D) (ci := 10) (v := .int (u1.1 4)) (C := RX9) (T := TX9) (N := 45) hx hb hts im_X9_next_X9 hown hE.1 hP 0 rfl rfl 4 (by decide) (hts (.fieldLink RX9 116 "RiverBridgesModel" "p" "I") (by decide +kernel)) (fun _ h9 => h9) rfl dX9_next_20 ?_
      refine lv_iconst (v := 1) hx hb dX9_next_23 (by decide) ?_
      refine lx_iadd (v := (u1.1 4) + 1) hx hb (rfl) dX9_next_24 ?_
      refine va_put (D := D) (ci := 10) (v := .int ((u1.1 4) + 1)) (ty := .int) (C := RX9) (T := TX9) (N := 45) hx hb hts im_X9_next_X9 tyX9 tyX9_ok nmX9 hown hE.1 hP hD hS 0 rfl rfl 4 (by decide) (hts (.fieldLink RX9 116 "RiverBridgesModel" "p" "I") (by decide +kernel)) (fun _ h9 => h9) rfl (by decide +kernel) rfl rfl (Nat.le_of_ble_eq_true rfl) dX9_next_25 (fun H locs hP hD hS => ?_)
      have hP := va_P_eq (WM_g4 cI cZ cB a u1 ((u1.1 4) + 1)) hP
      have hD := va_D_eq (WM_g4 cI cZ cB a u1 ((u1.1 4) + 1)) hD
      refine lv_goto (tgt := 0) hx hb dX9_next_28 (by decide) ?_
      exact ih_lp_next1 _ _ _ ⟨(sg u1 4 ((u1.1 4) + 1)), (TI_4 (i := i + 1) hT1 (by rw [ei]; exact nI_1 _) (by omega)), (⟨i + 1, (show upd u1.1 4 (u1.1 4 + 1) 4 = nI (i + 1) by rw [pk_us, ei]; exact nI_1 _), by omega, by omega⟩), hP, hD, hS, (lv_sub hl [0] rfl), hf⟩
    · replace hf := hf.trans (if_neg c32)
      refine lv_aload_n hx hb dX9_next_9 rfl (lv_at hl 0 rfl) ?_
      refine sf_calli (va_runV (As := []) (rest := []) ⟨hx, hb, hml, hown, hts⟩ (m_peek l D cI cZ cB cO cJ a0 H.size a _  u1  (hT1)) (cwV 0 hts gX9_next_X9_peek rfl rfl rfl (by decide +kernel) ⟨Nat.le_of_ble_eq_true rfl, Nat.le_of_ble_eq_true rfl⟩) (preV_full hE hZ hA hS hP hD (va_recv hE.1 hP (ci := 10) (q0 := 0) rfl rfl)) rfl rfl hl.1 rfl (lv_room (Nat.le_of_ble_eq_true rfl)) dX9_next_10 ⟨Nat.le_of_ble_eq_true rfl, Nat.le_of_ble_eq_true rfl⟩) hP hD hS hA (fun r9 u9 H locs hw hP hD hS => ?_)
      subst hw
      have hP : va_P D vwCl (WM cI cZ cB a u1) H := hP
      have hD : va_D A (WM cI cZ cB a u1) := hD
      refine lv_bipush (v := 10) hx hb dX9_next_13 (by decide) ?_
      refine lv_icmp_ne (tgt := 31) hx hb dX9_next_15 (by decide) (fun c10 => ?_) (fun c10 => ?_)
      · replace hf := hf.trans (if_neg c10)
        have e90 : (lp_next1  442 u) = u1 := by rw [hf]
        clear hf
        have hf := hf_lp_next1
        try rw [e90] at hf
        clear ih_lp_next1 e90
        have hl : lv_has ls 5 [(0, .ref (a 45))] := lv_sub hl [0] rfl
        refine lv_aload_n hx hb dX9_next_31 rfl (lv_at hl 0 rfl) ?_
        refine lv_aload_n hx hb dX9_next_32 rfl (lv_at hl 0 rfl) ?_
        refine va_get (D := D) (ci := 10) (v := .int (u1.1 4)) (C := RX9) (T := TX9) (N := 45) hx hb hts im_X9_next_X9 hown hE.1 hP 0 rfl rfl 4 (by decide) (hts (.fieldLink RX9 116 "RiverBridgesModel" "p" "I") (by decide +kernel)) (fun _ h9 => h9) rfl dX9_next_33 ?_
        refine va_put (D := D) (ci := 10) (v := .int (u1.1 4)) (ty := .int) (C := RX9) (T := TX9) (N := 45) hx hb hts im_X9_next_X9 tyX9 tyX9_ok nmX9 hown hE.1 hP hD hS 0 rfl rfl 25 (by decide) (hts (.fieldLink RX9 140 "RiverBridgesModel" "at" "I") (by decide +kernel)) (fun _ h9 => h9) rfl (by decide +kernel) rfl rfl (Nat.le_of_ble_eq_true rfl) dX9_next_36 (fun H locs hP hD hS => ?_)
        have hP := va_P_eq (WM_g25 cI cZ cB a u1 (u1.1 4)) hP
        have hD := va_D_eq (WM_g25 cI cZ cB a u1 (u1.1 4)) hD
        have hf_jn_next1 := hf
        refine ss_join (pc2 := 72) (st2 := []) (J := fun H locs ls => ∃ (_ : Unit), va_P D vwCl (WM cI cZ cB a (sg u1 25 (u1.1 4))) H ∧ va_D A (WM cI cZ cB a (sg u1 25 (u1.1 4))) ∧ va_S A s.heap H locs ∧ lv_has ls 5 [(0, .ref (a 45))] ∧ f_next u = jn_next1 u1 (sg u1 25 (u1.1 4))) ?_ (fun kj_jn_next1 => ?_)
        · clear hf
          intro H locs ls hJ
          obtain ⟨_, hP, hD, hS, hl, hf⟩ := hJ
          replace hf := hf.trans (jn_next1_s _ _)
          refine lv_aload_n hx hb dX9_next_72 rfl (lv_at hl 0 rfl) ?_
          refine sf_calli (va_runV (As := []) (rest := []) ⟨hx, hb, hml, hown, hts⟩ (m_peek l D cI cZ cB cO cJ a0 H.size a _  (sg u1 25 (u1.1 4))  (TI_sg hT1 (by decide))) (cwV 0 hts gX9_next_X9_peek rfl rfl rfl (by decide +kernel) ⟨Nat.le_of_ble_eq_true rfl, Nat.le_of_ble_eq_true rfl⟩) (preV_full hE hZ hA hS hP hD (va_recv hE.1 hP (ci := 10) (q0 := 0) rfl rfl)) rfl rfl hl.1 rfl (lv_room (Nat.le_of_ble_eq_true rfl)) dX9_next_73 ⟨Nat.le_of_ble_eq_true rfl, Nat.le_of_ble_eq_true rfl⟩) hP hD hS hA (fun r9 u9 H locs hw hP hD hS => ?_)
          subst hw
          have hP : va_P D vwCl (WM cI cZ cB a (sg u1 25 (u1.1 4))) H := hP
          have hD : va_D A (WM cI cZ cB a (sg u1 25 (u1.1 4))) := hD
          refine lv_istore_n (lv' := [(1, .int (f_peek (sg u1 25 (u1.1 4)))), (0, .ref (a 45))]) hx hb dX9_next_76 rfl hl (by decide) rfl (fun ls hl => ?_)
          refine lv_iload_n hx hb dX9_next_77 rfl (lv_at hl 0 rfl) ?_
          refine lv_if_ge (tgt := 87) hx hb dX9_next_78 (by decide) (fun c1 => ?_) (fun c1 => ?_)
          · replace hf := hf.trans (if_pos c1)
            have hf_jn_next2 := hf
            refine ss_join (pc2 := 127) (st2 := []) (J := fun H locs ls => ∃ (_ : Unit), va_P D vwCl (WM cI cZ cB a (sg u1 25 (u1.1 4))) H ∧ va_D A (WM cI cZ cB a (sg u1 25 (u1.1 4))) ∧ va_S A s.heap H locs ∧ lv_has ls 5 [(1, .int (f_peek (sg u1 25 (u1.1 4)))), (0, .ref (a 45))] ∧ f_next u = jn_next2 u1 (sg u1 25 (u1.1 4))) ?_ (fun kj_jn_next2 => ?_)
            · clear hf
              intro H locs ls hJ
              obtain ⟨_, hP, hD, hS, hl, hf⟩ := hJ
              replace hf := hf.trans (jn_next2_s _ _)
              refine lv_iload_n hx hb dX9_next_127 rfl (lv_at hl 0 rfl) ?_
              refine sf_calli (va_runS (As := [.int (f_peek (sg u1 25 (u1.1 4)))]) (rest := []) ⟨hx, hb, hml, hown, hts⟩ (m_isSmall l D cI cZ cB cO cJ a0 H.size a  (sg u1 25 (u1.1 4)) (f_peek (sg u1 25 (u1.1 4))) ) (cwS 1 hts gX9_next_X9_isSmall rfl rfl rfl (by decide +kernel) ⟨Nat.le_of_ble_eq_true rfl, Nat.le_of_ble_eq_true rfl⟩) (preS_full hE hZ hA hS hP hD) rfl rfl hl.1 rfl (lv_room (Nat.le_of_ble_eq_true rfl)) dX9_next_128 ⟨Nat.le_of_ble_eq_true rfl, Nat.le_of_ble_eq_true rfl⟩) hP hD hS hA (fun r9 u9 H locs hw hP hD hS => ?_)
              subst hw
              have hP : va_P D vwCl (WM cI cZ cB a (sg u1 25 (u1.1 4))) H := hP
              have hD : va_D A (WM cI cZ cB a (sg u1 25 (u1.1 4))) := hD
              refine lv_istore_n (lv' := [(2, .int (f_isSmall (sg u1 25 (u1.1 4)) (f_peek (sg u1 25 (u1.1 4))))), (1, .int (f_peek (sg u1 25 (u1.1 4)))), (0, .ref (a 45))]) hx hb dX9_next_131 rfl hl (by decide) rfl (fun ls hl => ?_)
              refine lv_iconst (v := 1) hx hb dX9_next_132 (by decide) ?_
              refine lv_istore_n (lv' := [(3, .int 1), (2, .int (f_isSmall (sg u1 25 (u1.1 4)) (f_peek (sg u1 25 (u1.1 4))))), (1, .int (f_peek (sg u1 25 (u1.1 4)))), (0, .ref (a 45))]) hx hb dX9_next_133 rfl hl (by decide) rfl (fun ls hl => ?_)
              refine lv_iconst (v := 0) hx hb dX9_next_134 (by decide) ?_
              refine lv_istore (lv' := [(4, .int 0), (3, .int 1), (2, .int (f_isSmall (sg u1 25 (u1.1 4)) (f_peek (sg u1 25 (u1.1 4))))), (1, .int (f_peek (sg u1 25 (u1.1 4)))), (0, .ref (a 45))]) hx hb dX9_next_135 hl (by decide) rfl (fun ls hl => ?_)
              refine lv_aload_n hx hb dX9_next_137 rfl (lv_at hl 4 rfl) ?_
              refine lv_lconst (v := 0) hx hb dX9_next_138 (by decide) ?_
              refine va_put (D := D) (ci := 10) (v := .long 0) (ty := .long) (C := RX9) (T := TX9) (N := 45) hx hb hts im_X9_next_X9 tyX9 tyX9_ok nmX9 hown hE.1 hP hD hS 0 rfl rfl 30 (by decide) (hts (.fieldLink RX9 153 "RiverBridgesModel" "word" "J") (by decide +kernel)) (fun _ h9 => h9) rfl (by decide +kernel) rfl rfl (Nat.le_of_ble_eq_true rfl) dX9_next_139 (fun H locs hP hD hS => ?_)
              have hP := va_P_eq (WM_g30 cI cZ cB a (sg u1 25 (u1.1 4)) 0) hP
              have hD := va_D_eq (WM_g30 cI cZ cB a (sg u1 25 (u1.1 4)) 0) hD
              refine lv_aload_n hx hb dX9_next_142 rfl (lv_at hl 4 rfl) ?_
              refine lv_iconst (v := 0) hx hb dX9_next_143 (by decide) ?_
              refine va_put (D := D) (ci := 10) (v := .int 0) (ty := .int) (C := RX9) (T := TX9) (N := 45) hx hb hts im_X9_next_X9 tyX9 tyX9_ok nmX9 hown hE.1 hP hD hS 0 rfl rfl 26 (by decide) (hts (.fieldLink RX9 157 "RiverBridgesModel" "number" "I") (by decide +kernel)) (fun _ h9 => h9) rfl (by decide +kernel) rfl rfl (Nat.le_of_ble_eq_true rfl) dX9_next_144 (fun H locs hP hD hS => ?_)
              have hP := va_P_eq (WM_g26 cI cZ cB a (sw (sg u1 25 (u1.1 4)) 0) 0) hP
              have hD := va_D_eq (WM_g26 cI cZ cB a (sw (sg u1 25 (u1.1 4)) 0) 0) hD
              have hf_lp_next2 := hf
              refine ss_ind (J := fun n H locs ls => ∃ (u2 : RS) (x3 : Int32) (q : Nat), (TI zt u2) ∧ (∃ i2 : Nat, u2.1 4 = nI i2 ∧ i2 + n = i + 442 ∧ i2 ≤ zt) ∧ (q + n = 442) ∧ va_P D vwCl (WM cI cZ cB a u2) H ∧ va_D A (WM cI cZ cB a u2) ∧ va_S A s.heap H locs ∧ lv_has ls 5 [(3, .int x3), (4, .int (nI q)), (2, .int (f_isSmall (sg u1 25 (u1.1 4)) (f_peek (sg u1 25 (u1.1 4))))), (1, .int (f_peek (sg u1 25 (u1.1 4)))), (0, .ref (a 45))] ∧ lp_next2 u1 442 (sg (sw (sg u1 25 (u1.1 4)) 0) 26 0) 1 0 = lp_next2 u1 n u2 x3 q) ?_ ?_ (442) _ _ _ ⟨(sg (sw (sg u1 25 (u1.1 4)) 0) 26 0), 1, 0, (TI_sg (TI_sw (TI_sg hT1 (by decide))) (by decide)), (⟨i, ei, rfl, hi2⟩), (rfl), hP, hD, hS, (lv_sub hl [1, 0, 2, 3, 4] rfl), rfl⟩
              all_goals clear hf
              · intro H locs ls hJ
                obtain ⟨u2, x3, q, hT2, hq2, hqn, hP, hD, hS, hl, hf⟩ := hJ
                obtain ⟨i2, _, h1, h2⟩ := hq2; have := hT2.1.2; omega
              · intro n_lp_next2 ih_lp_next2 H locs ls hJ
                obtain ⟨u2, x3, q, hT2, hq2, hqn, hP, hD, hS, hl, hf⟩ := hJ
                replace hf := hf.trans (lp_next2_s _ n_lp_next2 _ _ _)
                obtain ⟨i2, ei2, hj1, hj2⟩ := hq2
                refine lv_aload_n hx hb dX9_next_147 rfl (lv_at hl 4 rfl) ?_
                refine sf_calli (va_runV (As := []) (rest := []) ⟨hx, hb, hml, hown, hts⟩ (m_peek l D cI cZ cB cO cJ a0 H.size a _  u2  (hT2)) (cwV 0 hts gX9_next_X9_peek rfl rfl rfl (by decide +kernel) ⟨Nat.le_of_ble_eq_true rfl, Nat.le_of_ble_eq_true rfl⟩) (preV_full hE hZ hA hS hP hD (va_recv hE.1 hP (ci := 10) (q0 := 0) rfl rfl)) rfl rfl hl.1 rfl (lv_room (Nat.le_of_ble_eq_true rfl)) dX9_next_148 ⟨Nat.le_of_ble_eq_true rfl, Nat.le_of_ble_eq_true rfl⟩) hP hD hS hA (fun r9 u9 H locs hw hP hD hS => ?_)
                subst hw
                have hP : va_P D vwCl (WM cI cZ cB a u2) H := hP
                have hD : va_D A (WM cI cZ cB a u2) := hD
                refine sf_calli (va_runS (As := [.int (f_peek u2)]) (rest := []) ⟨hx, hb, hml, hown, hts⟩ (m_isSmall l D cI cZ cB cO cJ a0 H.size a  u2 (f_peek u2) ) (cwS 1 hts gX9_next_X9_isSmall rfl rfl rfl (by decide +kernel) ⟨Nat.le_of_ble_eq_true rfl, Nat.le_of_ble_eq_true rfl⟩) (preS_full hE hZ hA hS hP hD) rfl rfl hl.1 rfl (lv_room (Nat.le_of_ble_eq_true rfl)) dX9_next_151 ⟨Nat.le_of_ble_eq_true rfl, Nat.le_of_ble_eq_true rfl⟩) hP hD hS hA (fun r9 u9 H locs hw hP hD hS => ?_)
                subst hw
                have hP : va_P D vwCl (WM cI cZ cB a u2) H := hP
                have hD : va_D A (WM cI cZ cB a u2) := hD
                refine lv_if_ne (tgt := 167) hx hb dX9_next_154 (by decide) (fun cs => ?_) (fun cs => ?_)
                · replace hf := hf.trans (if_neg cs)
                  have hlt2 : i2 < zt := peek_lt hT2.1.1 hT2.1.2 ei2 hj2 (fun e9 => cs (by rw [e9, f_isSmall_s]; decide))
                  have hf_jn_next3 := hf
                  refine ss_join (pc2 := 188) (st2 := []) (J := fun H locs ls => ∃ (x5 : Int32), va_P D vwCl (WM cI cZ cB a u2) H ∧ va_D A (WM cI cZ cB a u2) ∧ va_S A s.heap H locs ∧ lv_has ls 5 [(3, .int x5), (4, .int (nI q)), (2, .int (f_isSmall (sg u1 25 (u1.1 4)) (f_peek (sg u1 25 (u1.1 4))))), (1, .int (f_peek (sg u1 25 (u1.1 4)))), (0, .ref (a 45))] ∧ jn_next3 u1 x3 u2 = x5) ?_ (fun kj_jn_next3 => ?_)
                  · clear hf
                    intro H locs ls hJ
                    obtain ⟨x5, hP, hD, hS, hl, hf⟩ := hJ
                    have e90 : (jn_next3 u1 x3 u2) = x5 := by rw [hf]
                    clear hf
                    have hf := hf_jn_next3
                    try rw [e90] at hf
                    clear e90
                    have hf_jn_next4 := hf
                    refine ss_join (pc2 := 212) (st2 := []) (J := fun H locs ls => ∃ (u3 : RS), (TI zt u3) ∧ (u3.1 4 = nI i2) ∧ va_P D vwCl (WM cI cZ cB a u3) H ∧ va_D A (WM cI cZ cB a u3) ∧ va_S A s.heap H locs ∧ lv_has ls 5 [(3, .int x5), (4, .int (nI q)), (2, .int (f_isSmall (sg u1 25 (u1.1 4)) (f_peek (sg u1 25 (u1.1 4))))), (1, .int (f_peek (sg u1 25 (u1.1 4)))), (0, .ref (a 45))] ∧ jn_next4 u2 q = u3) ?_ (fun kj_jn_next4 => ?_)
                    · clear hf
                      intro H locs ls hJ
                      obtain ⟨u3, hT3, ei3, hP, hD, hS, hl, hf⟩ := hJ
                      have e90 : (jn_next4 u2 q) = u3 := by rw [hf]
                      clear hf
                      have hf := hf_jn_next4
                      try rw [e90] at hf
                      clear e90
                      have hf_jn_next5 := hf
                      refine ss_join (pc2 := 237) (st2 := []) (J := fun H locs ls => ∃ (u4 : RS), (TI zt u4) ∧ (u4.1 4 = nI i2) ∧ va_P D vwCl (WM cI cZ cB a u4) H ∧ va_D A (WM cI cZ cB a u4) ∧ va_S A s.heap H locs ∧ lv_has ls 5 [(3, .int x5), (4, .int (nI q)), (2, .int (f_isSmall (sg u1 25 (u1.1 4)) (f_peek (sg u1 25 (u1.1 4))))), (1, .int (f_peek (sg u1 25 (u1.1 4)))), (0, .ref (a 45))] ∧ jn_next5 q u3 = u4) ?_ (fun kj_jn_next5 => ?_)
                      · clear hf
                        intro H locs ls hJ
                        obtain ⟨u4, hT4, ei4, hP, hD, hS, hl, hf⟩ := hJ
                        have e90 : (jn_next5 q u3) = u4 := by rw [hf]
                        clear hf
                        have hf := hf_jn_next5
                        try rw [e90] at hf
                        clear e90
                        refine lv_iinc (v := nI (q + 1)) (lv' := [(4, .int (nI (q + 1))), (3, .int x5), (2, .int (f_isSmall (sg u1 25 (u1.1 4)) (f_peek (sg u1 25 (u1.1 4))))), (1, .int (f_peek (sg u1 25 (u1.1 4)))), (0, .ref (a 45))]) hx hb dX9_next_237 hl (k := 1) rfl (by first | exact nI_add _ _ | rfl) (by decide) rfl (fun ls hl => ?_)
                        refine lv_aload_n hx hb dX9_next_240 rfl (lv_at hl 4 rfl) ?_
                        refine lv_dup hx hb dX9_next_241 rfl ?_
                        refine va_get (D := D) (ci := 10) (v := .int (u4.1 4)) (C := RX9) (T := TX9) (N := 45) hx hb hts im_X9_next_X9 hown hE.1 hP 0 rfl rfl 4 (by decide) (hts (.fieldLink RX9 116 "RiverBridgesModel" "p" "I") (by decide +kernel)) (fun _ h9 => h9) rfl dX9_next_242 ?_
                        refine lv_iconst (v := 1) hx hb dX9_next_245 (by decide) ?_
                        refine lx_iadd (v := (u4.1 4) + 1) hx hb (rfl) dX9_next_246 ?_
                        refine va_put (D := D) (ci := 10) (v := .int ((u4.1 4) + 1)) (ty := .int) (C := RX9) (T := TX9) (N := 45) hx hb hts im_X9_next_X9 tyX9 tyX9_ok nmX9 hown hE.1 hP hD hS 0 rfl rfl 4 (by decide) (hts (.fieldLink RX9 116 "RiverBridgesModel" "p" "I") (by decide +kernel)) (fun _ h9 => h9) rfl (by decide +kernel) rfl rfl (Nat.le_of_ble_eq_true rfl) dX9_next_247 (fun H locs hP hD hS => ?_)
                        have hP := va_P_eq (WM_g4 cI cZ cB a u4 ((u4.1 4) + 1)) hP
                        have hD := va_D_eq (WM_g4 cI cZ cB a u4 ((u4.1 4) + 1)) hD
                        refine lv_goto (tgt := 147) hx hb dX9_next_250 (by decide) ?_
                        exact ih_lp_next2 _ _ _ ⟨(sg u4 4 ((u4.1 4) + 1)), x5, (q + 1), (TI_4 (i := i2 + 1) hT4 (by rw [ei4]; exact nI_1 _) (by omega)), (⟨i2 + 1, (show upd u4.1 4 (u4.1 4 + 1) 4 = nI (i2 + 1) by rw [pk_us, ei4]; exact nI_1 _), by omega, by omega⟩), (by omega), hP, hD, hS, (lv_sub hl [1, 0, 2, 3, 4] rfl), hf⟩
                      · clear hf
                        have hf := jn_next5_s q u3
                        refine lv_iload hx hb dX9_next_212 (lv_at hl 1 rfl) ?_
                        refine lv_iconst (v := 4) hx hb dX9_next_214 (by decide) ?_
                        refine lv_icmp_ge (tgt := 237) hx hb dX9_next_215 (by decide) (fun c2 => ?_) (fun c2 => ?_)
                        · replace hf := hf.trans (if_pos c2)
                          exact kj_jn_next5 _ _ _ ⟨u3, (by first | exact hT3 | exact TI_sg hT3 (by decide)), (ei3), hP, hD, hS, (lv_sub hl [0, 1, 2, 3, 4] rfl), hf⟩
                        · replace hf := hf.trans (if_neg c2)
                          refine lv_aload_n hx hb dX9_next_218 rfl (lv_at hl 4 rfl) ?_
                          refine lv_bipush (v := 10) hx hb dX9_next_219 (by decide) ?_
                          refine lv_aload_n hx hb dX9_next_221 rfl (lv_at hl 4 rfl) ?_
                          refine va_get (D := D) (ci := 10) (v := .int (u3.1 26)) (C := RX9) (T := TX9) (N := 45) hx hb hts im_X9_next_X9 hown hE.1 hP 0 rfl rfl 26 (by decide) (hts (.fieldLink RX9 157 "RiverBridgesModel" "number" "I") (by decide +kernel)) (fun _ h9 => h9) rfl dX9_next_222 ?_
                          refine lx_imul (v := 10 * (u3.1 26)) hx hb (rfl) dX9_next_225 ?_
                          refine lv_aload_n hx hb dX9_next_226 rfl (lv_at hl 4 rfl) ?_
                          refine sf_calli (va_runV (As := []) (rest := [.int (10 * (u3.1 26)), .ref (a 45)]) ⟨hx, hb, hml, hown, hts⟩ (m_peek l D cI cZ cB cO cJ a0 H.size a _  u3  (hT3)) (cwV 0 hts gX9_next_X9_peek rfl rfl rfl (by decide +kernel) ⟨Nat.le_of_ble_eq_true rfl, Nat.le_of_ble_eq_true rfl⟩) (preV_full hE hZ hA hS hP hD (va_recv hE.1 hP (ci := 10) (q0 := 0) rfl rfl)) rfl rfl hl.1 rfl (lv_room (Nat.le_of_ble_eq_true rfl)) dX9_next_227 ⟨Nat.le_of_ble_eq_true rfl, Nat.le_of_ble_eq_true rfl⟩) hP hD hS hA (fun r9 u9 H locs hw hP hD hS => ?_)
                          subst hw
                          have hP : va_P D vwCl (WM cI cZ cB a u3) H := hP
                          have hD : va_D A (WM cI cZ cB a u3) := hD
                          refine lx_iadd (v := (10 * (u3.1 26)) + (f_peek u3)) hx hb (rfl) dX9_next_230 ?_
                          refine lv_bipush (v := 48) hx hb dX9_next_231 (by decide) ?_
                          refine lx_isub (v := ((10 * (u3.1 26)) + (f_peek u3)) - 48) hx hb (rfl) dX9_next_233 ?_
                          refine va_put (D := D) (ci := 10) (v := .int (((10 * (u3.1 26)) + (f_peek u3)) - 48)) (ty := .int) (C := RX9) (T := TX9) (N := 45) hx hb hts im_X9_next_X9 tyX9 tyX9_ok nmX9 hown hE.1 hP hD hS 0 rfl rfl 26 (by decide) (hts (.fieldLink RX9 157 "RiverBridgesModel" "number" "I") (by decide +kernel)) (fun _ h9 => h9) rfl (by decide +kernel) rfl rfl (Nat.le_of_ble_eq_true rfl) dX9_next_234 (fun H locs hP hD hS => ?_)
                          have hP := va_P_eq (WM_g26 cI cZ cB a u3 (((10 * (u3.1 26)) + (f_peek u3)) - 48)) hP
                          have hD := va_D_eq (WM_g26 cI cZ cB a u3 (((10 * (u3.1 26)) + (f_peek u3)) - 48)) hD
                          exact kj_jn_next5 _ _ _ ⟨(sg u3 26 (((10 * (u3.1 26)) + (f_peek u3)) - 48)), (by first | exact hT3 | exact TI_sg hT3 (by decide)), (ei3), hP, hD, hS, (lv_sub hl [0, 1, 2, 3, 4] rfl), hf⟩
                    · clear hf
                      have hf := jn_next4_s u2 q
                      refine lv_iload hx hb dX9_next_188 (lv_at hl 1 rfl) ?_
                      refine lv_bipush (v := 7) hx hb dX9_next_190 (by decide) ?_
                      refine lv_icmp_ge (tgt := 212) hx hb dX9_next_192 (by decide) (fun c3 => ?_) (fun c3 => ?_)
                      · replace hf := hf.trans (if_pos c3)
                        exact kj_jn_next4 _ _ _ ⟨u2, (by first | exact hT2 | exact TI_sw hT2), (ei2), hP, hD, hS, (lv_sub hl [0, 1, 2, 3, 4] rfl), hf⟩
                      · replace hf := hf.trans (if_neg c3)
                        refine lv_aload_n hx hb dX9_next_195 rfl (lv_at hl 4 rfl) ?_
                        refine lv_aload_n hx hb dX9_next_196 rfl (lv_at hl 4 rfl) ?_
                        refine va_get (D := D) (ci := 10) (v := .long u2.2.1) (C := RX9) (T := TX9) (N := 45) hx hb hts im_X9_next_X9 hown hE.1 hP 0 rfl rfl 30 (by decide) (hts (.fieldLink RX9 153 "RiverBridgesModel" "word" "J") (by decide +kernel)) (fun _ h9 => h9) rfl dX9_next_197 ?_
                        refine lv_bipush (v := 8) hx hb dX9_next_200 (by decide) ?_
                        refine lv_lshl (v := u2.2.1 <<< ((8 : Int32).toInt64 &&& 63)) hx hb dX9_next_202 rfl ?_
                        refine lv_aload_n hx hb dX9_next_203 rfl (lv_at hl 4 rfl) ?_
                        refine sf_calli (va_runV (As := []) (rest := [.long (u2.2.1 <<< ((8 : Int32).toInt64 &&& 63)), .ref (a 45)]) ⟨hx, hb, hml, hown, hts⟩ (m_peek l D cI cZ cB cO cJ a0 H.size a _  u2  (hT2)) (cwV 0 hts gX9_next_X9_peek rfl rfl rfl (by decide +kernel) ⟨Nat.le_of_ble_eq_true rfl, Nat.le_of_ble_eq_true rfl⟩) (preV_full hE hZ hA hS hP hD (va_recv hE.1 hP (ci := 10) (q0 := 0) rfl rfl)) rfl rfl hl.1 rfl (lv_room (Nat.le_of_ble_eq_true rfl)) dX9_next_204 ⟨Nat.le_of_ble_eq_true rfl, Nat.le_of_ble_eq_true rfl⟩) hP hD hS hA (fun r9 u9 H locs hw hP hD hS => ?_)
                        subst hw
                        have hP : va_P D vwCl (WM cI cZ cB a u2) H := hP
                        have hD : va_D A (WM cI cZ cB a u2) := hD
                        refine lv_i2l (v := (f_peek u2).toInt64) hx hb dX9_next_207 rfl ?_
                        refine lv_lor hx hb dX9_next_208 ?_
                        refine va_put (D := D) (ci := 10) (v := .long ((u2.2.1 <<< ((8 : Int32).toInt64 &&& 63)) ||| ((f_peek u2).toInt64))) (ty := .long) (C := RX9) (T := TX9) (N := 45) hx hb hts im_X9_next_X9 tyX9 tyX9_ok nmX9 hown hE.1 hP hD hS 0 rfl rfl 30 (by decide) (hts (.fieldLink RX9 153 "RiverBridgesModel" "word" "J") (by decide +kernel)) (fun _ h9 => h9) rfl (by decide +kernel) rfl rfl (Nat.le_of_ble_eq_true rfl) dX9_next_209 (fun H locs hP hD hS => ?_)
                        have hP := va_P_eq (WM_g30 cI cZ cB a u2 ((u2.2.1 <<< ((8 : Int32).toInt64 &&& 63)) ||| ((f_peek u2).toInt64))) hP
                        have hD := va_D_eq (WM_g30 cI cZ cB a u2 ((u2.2.1 <<< ((8 : Int32).toInt64 &&& 63)) ||| ((f_peek u2).toInt64))) hD
                        exact kj_jn_next4 _ _ _ ⟨(sw u2 ((u2.2.1 <<< ((8 : Int32).toInt64 &&& 63)) ||| ((f_peek u2).toInt64))), (by first | exact hT2 | exact TI_sw hT2), (ei2), hP, hD, hS, (lv_sub hl [0, 1, 2, 3, 4] rfl), hf⟩
                  · clear hf
                    have hf := jn_next3_s u1 x3 u2
                    refine lv_iload_n hx hb dX9_next_167 rfl (lv_at hl 0 rfl) ?_
                    refine lv_if_eq (tgt := 186) hx hb dX9_next_168 (by decide) (fun c4 => ?_) (fun c4 => ?_)
                    · replace hf := hf.trans (if_pos c4)
                      refine lv_iconst (v := 0) hx hb dX9_next_186 (by decide) ?_
                      refine lv_istore_n (lv' := [(3, .int 0), (4, .int (nI q)), (2, .int (f_isSmall (sg u1 25 (u1.1 4)) (f_peek (sg u1 25 (u1.1 4))))), (1, .int (f_peek (sg u1 25 (u1.1 4)))), (0, .ref (a 45))]) hx hb dX9_next_187 rfl hl (by decide) rfl (fun ls hl => ?_)
                      exact kj_jn_next3 _ _ _ ⟨0, hP, hD, hS, (lv_sub hl [0, 1, 2, 3, 4] rfl), hf⟩
                    · replace hf := hf.trans (if_neg c4)
                      refine lv_aload_n hx hb dX9_next_171 rfl (lv_at hl 4 rfl) ?_
                      refine sf_calli (va_runV (As := []) (rest := []) ⟨hx, hb, hml, hown, hts⟩ (m_peek l D cI cZ cB cO cJ a0 H.size a _  u2  (hT2)) (cwV 0 hts gX9_next_X9_peek rfl rfl rfl (by decide +kernel) ⟨Nat.le_of_ble_eq_true rfl, Nat.le_of_ble_eq_true rfl⟩) (preV_full hE hZ hA hS hP hD (va_recv hE.1 hP (ci := 10) (q0 := 0) rfl rfl)) rfl rfl hl.1 rfl (lv_room (Nat.le_of_ble_eq_true rfl)) dX9_next_172 ⟨Nat.le_of_ble_eq_true rfl, Nat.le_of_ble_eq_true rfl⟩) hP hD hS hA (fun r9 u9 H locs hw hP hD hS => ?_)
                      subst hw
                      have hP : va_P D vwCl (WM cI cZ cB a u2) H := hP
                      have hD : va_D A (WM cI cZ cB a u2) := hD
                      refine sf_calli (va_runS (As := [.int (f_peek u2)]) (rest := []) ⟨hx, hb, hml, hown, hts⟩ (m_isSmall l D cI cZ cB cO cJ a0 H.size a  u2 (f_peek u2) ) (cwS 1 hts gX9_next_X9_isSmall rfl rfl rfl (by decide +kernel) ⟨Nat.le_of_ble_eq_true rfl, Nat.le_of_ble_eq_true rfl⟩) (preS_full hE hZ hA hS hP hD) rfl rfl hl.1 rfl (lv_room (Nat.le_of_ble_eq_true rfl)) dX9_next_175 ⟨Nat.le_of_ble_eq_true rfl, Nat.le_of_ble_eq_true rfl⟩) hP hD hS hA (fun r9 u9 H locs hw hP hD hS => ?_)
                      subst hw
                      have hP : va_P D vwCl (WM cI cZ cB a u2) H := hP
                      have hD : va_D A (WM cI cZ cB a u2) := hD
                      refine lv_iload_n hx hb dX9_next_178 rfl (lv_at hl 2 rfl) ?_
                      refine lv_icmp_ne (tgt := 186) hx hb dX9_next_179 (by decide) (fun c5 => ?_) (fun c5 => ?_)
                      · replace hf := hf.trans (if_neg c5)
                        refine lv_iconst (v := 0) hx hb dX9_next_186 (by decide) ?_
                        refine lv_istore_n (lv' := [(3, .int 0), (4, .int (nI q)), (2, .int (f_isSmall (sg u1 25 (u1.1 4)) (f_peek (sg u1 25 (u1.1 4))))), (1, .int (f_peek (sg u1 25 (u1.1 4)))), (0, .ref (a 45))]) hx hb dX9_next_187 rfl hl (by decide) rfl (fun ls hl => ?_)
                        exact kj_jn_next3 _ _ _ ⟨0, hP, hD, hS, (lv_sub hl [0, 1, 2, 3, 4] rfl), hf⟩
                      · replace hf := hf.trans (if_pos c5)
                        refine lv_iconst (v := 1) hx hb dX9_next_182 (by decide) ?_
                        refine lv_goto (tgt := 187) hx hb dX9_next_183 (by decide) ?_
                        refine lv_istore_n (lv' := [(3, .int 1), (4, .int (nI q)), (2, .int (f_isSmall (sg u1 25 (u1.1 4)) (f_peek (sg u1 25 (u1.1 4))))), (1, .int (f_peek (sg u1 25 (u1.1 4)))), (0, .ref (a 45))]) hx hb dX9_next_187 rfl hl (by decide) rfl (fun ls hl => ?_)
                        exact kj_jn_next3 _ _ _ ⟨1, hP, hD, hS, (lv_sub hl [0, 1, 2, 3, 4] rfl), hf⟩
                · replace hf := hf.trans (if_pos cs)
                  refine lv_aload_n hx hb dX9_next_157 rfl (lv_at hl 4 rfl) ?_
                  refine sf_calli (va_runV (As := []) (rest := []) ⟨hx, hb, hml, hown, hts⟩ (m_peek l D cI cZ cB cO cJ a0 H.size a _  u2  (hT2)) (cwV 0 hts gX9_next_X9_peek rfl rfl rfl (by decide +kernel) ⟨Nat.le_of_ble_eq_true rfl, Nat.le_of_ble_eq_true rfl⟩) (preV_full hE hZ hA hS hP hD (va_recv hE.1 hP (ci := 10) (q0 := 0) rfl rfl)) rfl rfl hl.1 rfl (lv_room (Nat.le_of_ble_eq_true rfl)) dX9_next_158 ⟨Nat.le_of_ble_eq_true rfl, Nat.le_of_ble_eq_true rfl⟩) hP hD hS hA (fun r9 u9 H locs hw hP hD hS => ?_)
                  subst hw
                  have hP : va_P D vwCl (WM cI cZ cB a u2) H := hP
                  have hD : va_D A (WM cI cZ cB a u2) := hD
                  refine sf_calli (va_runS (As := [.int (f_peek u2)]) (rest := []) ⟨hx, hb, hml, hown, hts⟩ (m_isDigit l D cI cZ cB cO cJ a0 H.size a  u2 (f_peek u2) ) (cwS 1 hts gX9_next_X9_isDigit rfl rfl rfl (by decide +kernel) ⟨Nat.le_of_ble_eq_true rfl, Nat.le_of_ble_eq_true rfl⟩) (preS_full hE hZ hA hS hP hD) rfl rfl hl.1 rfl (lv_room (Nat.le_of_ble_eq_true rfl)) dX9_next_161 ⟨Nat.le_of_ble_eq_true rfl, Nat.le_of_ble_eq_true rfl⟩) hP hD hS hA (fun r9 u9 H locs hw hP hD hS => ?_)
                  subst hw
                  have hP : va_P D vwCl (WM cI cZ cB a u2) H := hP
                  have hD : va_D A (WM cI cZ cB a u2) := hD
                  refine lv_if_eq (tgt := 253) hx hb dX9_next_164 (by decide) (fun cd => ?_) (fun cd => ?_)
                  · replace hf := hf.trans (if_pos cd)
                    have e90 : (lp_next2 u1 442 (sg (sw (sg u1 25 (u1.1 4)) 0) 26 0) 1 0).1 = u2 := by rw [hf]
                    have e91 : (lp_next2 u1 442 (sg (sw (sg u1 25 (u1.1 4)) 0) 26 0) 1 0).2.1 = x3 := by rw [hf]
                    have e92 : (lp_next2 u1 442 (sg (sw (sg u1 25 (u1.1 4)) 0) 26 0) 1 0).2.2 = q := by rw [hf]
                    clear hf
                    have hf := hf_lp_next2
                    try rw [e90] at hf
                    try rw [e91] at hf
                    try rw [e92] at hf
                    clear ih_lp_next2 e90 e91 e92
                    have hl : lv_has ls 5 [(3, .int x3), (4, .int (nI q)), (2, .int (f_isSmall (sg u1 25 (u1.1 4)) (f_peek (sg u1 25 (u1.1 4))))), (1, .int (f_peek (sg u1 25 (u1.1 4)))), (0, .ref (a 45))] := lv_sub hl [0, 1, 2, 3, 4] rfl
                    have hf_jn_next6 := hf
                    refine ss_join (pc2 := 265) (st2 := []) (J := fun H locs ls => ∃ (u5 : RS), va_P D vwCl (WM cI cZ cB a u5) H ∧ va_D A (WM cI cZ cB a u5) ∧ va_S A s.heap H locs ∧ lv_has ls 5 [(3, .int x3), (4, .int (nI q)), (2, .int (f_isSmall (sg u1 25 (u1.1 4)) (f_peek (sg u1 25 (u1.1 4))))), (1, .int (f_peek (sg u1 25 (u1.1 4)))), (0, .ref (a 45))] ∧ jn_next6 u2 q = u5) ?_ (fun kj_jn_next6 => ?_)
                    · clear hf
                      intro H locs ls hJ
                      obtain ⟨u5, hP, hD, hS, hl, hf⟩ := hJ
                      have e90 : (jn_next6 u2 q) = u5 := by rw [hf]
                      clear hf
                      have hf := hf_jn_next6
                      try rw [e90] at hf
                      clear e90
                      refine lv_aload_n hx hb dX9_next_265 rfl (lv_at hl 4 rfl) ?_
                      refine lv_iload_n hx hb dX9_next_266 rfl (lv_at hl 0 rfl) ?_
                      refine lv_if_eq (tgt := 280) hx hb dX9_next_267 (by decide) (fun c6 => ?_) (fun c6 => ?_)
                      · replace hf := hf.trans (if_pos c6)
                        refine lv_iconst (v := 4) hx hb dX9_next_280 (by decide) ?_
                        refine lv_goto (tgt := 293) hx hb dX9_next_281 (by decide) ?_
                        refine va_put (D := D) (ci := 10) (v := .int 4) (ty := .int) (C := RX9) (T := TX9) (N := 45) hx hb hts im_X9_next_X9 tyX9 tyX9_ok nmX9 hown hE.1 hP hD hS 0 rfl rfl 24 (by decide) (hts (.fieldLink RX9 143 "RiverBridgesModel" "token" "I") (by decide +kernel)) (fun _ h9 => h9) rfl (by decide +kernel) rfl rfl (Nat.le_of_ble_eq_true rfl) dX9_next_293 (fun H locs hP hD hS => ?_)
                        have hP := va_P_eq (WM_g24 cI cZ cB a u5 4) hP
                        have hD := va_D_eq (WM_g24 cI cZ cB a u5 4) hD
                        exact ss_vret () hx hb hr hlocks (by rw [hf]; exact hP) (by rw [hf]; exact hD) hS trivial (Nat.le_of_ble_eq_true rfl) (Nat.le_of_ble_eq_true rfl) dX9_next_296
                      · replace hf := hf.trans (if_neg c6)
                        refine lv_iload_n hx hb dX9_next_270 rfl (lv_at hl 2 rfl) ?_
                        refine lv_if_ne (tgt := 284) hx hb dX9_next_271 (by decide) (fun c7 => ?_) (fun c7 => ?_)
                        · replace hf := hf.trans (if_neg c7)
                          refine lv_iload_n hx hb dX9_next_284 rfl (lv_at hl 2 rfl) ?_
                          refine lv_if_eq (tgt := 292) hx hb dX9_next_285 (by decide) (fun c8 => ?_) (fun c8 => ?_)
                          · replace hf := hf.trans (if_pos c8)
                            refine lv_iconst (v := 2) hx hb dX9_next_292 (by decide) ?_
                            refine va_put (D := D) (ci := 10) (v := .int 2) (ty := .int) (C := RX9) (T := TX9) (N := 45) hx hb hts im_X9_next_X9 tyX9 tyX9_ok nmX9 hown hE.1 hP hD hS 0 rfl rfl 24 (by decide) (hts (.fieldLink RX9 143 "RiverBridgesModel" "token" "I") (by decide +kernel)) (fun _ h9 => h9) rfl (by decide +kernel) rfl rfl (Nat.le_of_ble_eq_true rfl) dX9_next_293 (fun H locs hP hD hS => ?_)
                            have hP := va_P_eq (WM_g24 cI cZ cB a u5 2) hP
                            have hD := va_D_eq (WM_g24 cI cZ cB a u5 2) hD
                            exact ss_vret () hx hb hr hlocks (by rw [hf]; exact hP) (by rw [hf]; exact hD) hS trivial (Nat.le_of_ble_eq_true rfl) (Nat.le_of_ble_eq_true rfl) dX9_next_296
                          · replace hf := hf.trans (if_neg c8)
                            refine lv_iconst (v := 1) hx hb dX9_next_288 (by decide) ?_
                            refine lv_goto (tgt := 293) hx hb dX9_next_289 (by decide) ?_
                            refine va_put (D := D) (ci := 10) (v := .int 1) (ty := .int) (C := RX9) (T := TX9) (N := 45) hx hb hts im_X9_next_X9 tyX9 tyX9_ok nmX9 hown hE.1 hP hD hS 0 rfl rfl 24 (by decide) (hts (.fieldLink RX9 143 "RiverBridgesModel" "token" "I") (by decide +kernel)) (fun _ h9 => h9) rfl (by decide +kernel) rfl rfl (Nat.le_of_ble_eq_true rfl) dX9_next_293 (fun H locs hP hD hS => ?_)
                            have hP := va_P_eq (WM_g24 cI cZ cB a u5 1) hP
                            have hD := va_D_eq (WM_g24 cI cZ cB a u5 1) hD
                            exact ss_vret () hx hb hr hlocks (by rw [hf]; exact hP) (by rw [hf]; exact hD) hS trivial (Nat.le_of_ble_eq_true rfl) (Nat.le_of_ble_eq_true rfl) dX9_next_296
                        · replace hf := hf.trans (if_pos c7)
                          refine lv_iload hx hb dX9_next_274 (lv_at hl 1 rfl) ?_
                          refine lv_iconst (v := 4) hx hb dX9_next_276 (by decide) ?_
                          refine lv_icmp_le (tgt := 284) hx hb dX9_next_277 (by decide) (fun c9 => ?_) (fun c9 => ?_)
                          · replace hf := hf.trans (if_pos c9)
                            refine lv_iload_n hx hb dX9_next_284 rfl (lv_at hl 2 rfl) ?_
                            refine lv_if_eq (tgt := 292) hx hb dX9_next_285 (by decide) (fun c10 => ?_) (fun c10 => ?_)
                            · replace hf := hf.trans (if_pos c10)
                              refine lv_iconst (v := 2) hx hb dX9_next_292 (by decide) ?_
                              refine va_put (D := D) (ci := 10) (v := .int 2) (ty := .int) (C := RX9) (T := TX9) (N := 45) hx hb hts im_X9_next_X9 tyX9 tyX9_ok nmX9 hown hE.1 hP hD hS 0 rfl rfl 24 (by decide) (hts (.fieldLink RX9 143 "RiverBridgesModel" "token" "I") (by decide +kernel)) (fun _ h9 => h9) rfl (by decide +kernel) rfl rfl (Nat.le_of_ble_eq_true rfl) dX9_next_293 (fun H locs hP hD hS => ?_)
                              have hP := va_P_eq (WM_g24 cI cZ cB a u5 2) hP
                              have hD := va_D_eq (WM_g24 cI cZ cB a u5 2) hD
                              exact ss_vret () hx hb hr hlocks (by rw [hf]; exact hP) (by rw [hf]; exact hD) hS trivial (Nat.le_of_ble_eq_true rfl) (Nat.le_of_ble_eq_true rfl) dX9_next_296
                            · replace hf := hf.trans (if_neg c10)
                              refine lv_iconst (v := 1) hx hb dX9_next_288 (by decide) ?_
                              refine lv_goto (tgt := 293) hx hb dX9_next_289 (by decide) ?_
                              refine va_put (D := D) (ci := 10) (v := .int 1) (ty := .int) (C := RX9) (T := TX9) (N := 45) hx hb hts im_X9_next_X9 tyX9 tyX9_ok nmX9 hown hE.1 hP hD hS 0 rfl rfl 24 (by decide) (hts (.fieldLink RX9 143 "RiverBridgesModel" "token" "I") (by decide +kernel)) (fun _ h9 => h9) rfl (by decide +kernel) rfl rfl (Nat.le_of_ble_eq_true rfl) dX9_next_293 (fun H locs hP hD hS => ?_)
                              have hP := va_P_eq (WM_g24 cI cZ cB a u5 1) hP
                              have hD := va_D_eq (WM_g24 cI cZ cB a u5 1) hD
                              exact ss_vret () hx hb hr hlocks (by rw [hf]; exact hP) (by rw [hf]; exact hD) hS trivial (Nat.le_of_ble_eq_true rfl) (Nat.le_of_ble_eq_true rfl) dX9_next_296
                          · replace hf := hf.trans (if_neg c9)
                            refine lv_iconst (v := 4) hx hb dX9_next_280 (by decide) ?_
                            refine lv_goto (tgt := 293) hx hb dX9_next_281 (by decide) ?_
                            refine va_put (D := D) (ci := 10) (v := .int 4) (ty := .int) (C := RX9) (T := TX9) (N := 45) hx hb hts im_X9_next_X9 tyX9 tyX9_ok nmX9 hown hE.1 hP hD hS 0 rfl rfl 24 (by decide) (hts (.fieldLink RX9 143 "RiverBridgesModel" "token" "I") (by decide +kernel)) (fun _ h9 => h9) rfl (by decide +kernel) rfl rfl (Nat.le_of_ble_eq_true rfl) dX9_next_293 (fun H locs hP hD hS => ?_)
                            have hP := va_P_eq (WM_g24 cI cZ cB a u5 4) hP
                            have hD := va_D_eq (WM_g24 cI cZ cB a u5 4) hD
                            exact ss_vret () hx hb hr hlocks (by rw [hf]; exact hP) (by rw [hf]; exact hD) hS trivial (Nat.le_of_ble_eq_true rfl) (Nat.le_of_ble_eq_true rfl) dX9_next_296
                    · clear hf
                      have hf := jn_next6_s u2 q
                      refine lv_iload hx hb dX9_next_253 (lv_at hl 1 rfl) ?_
                      refine lv_bipush (v := 7) hx hb dX9_next_255 (by decide) ?_
                      refine lv_icmp_le (tgt := 265) hx hb dX9_next_257 (by decide) (fun c11 => ?_) (fun c11 => ?_)
                      · replace hf := hf.trans (if_pos c11)
                        exact kj_jn_next6 _ _ _ ⟨u2, hP, hD, hS, (lv_sub hl [0, 1, 2, 3, 4] rfl), hf⟩
                      · replace hf := hf.trans (if_neg c11)
                        refine lv_aload_n hx hb dX9_next_260 rfl (lv_at hl 4 rfl) ?_
                        refine lv_lconst (v := 0) hx hb dX9_next_261 (by decide) ?_
                        refine va_put (D := D) (ci := 10) (v := .long 0) (ty := .long) (C := RX9) (T := TX9) (N := 45) hx hb hts im_X9_next_X9 tyX9 tyX9_ok nmX9 hown hE.1 hP hD hS 0 rfl rfl 30 (by decide) (hts (.fieldLink RX9 153 "RiverBridgesModel" "word" "J") (by decide +kernel)) (fun _ h9 => h9) rfl (by decide +kernel) rfl rfl (Nat.le_of_ble_eq_true rfl) dX9_next_262 (fun H locs hP hD hS => ?_)
                        have hP := va_P_eq (WM_g30 cI cZ cB a u2 0) hP
                        have hD := va_D_eq (WM_g30 cI cZ cB a u2 0) hD
                        exact kj_jn_next6 _ _ _ ⟨(sw u2 0), hP, hD, hS, (lv_sub hl [0, 1, 2, 3, 4] rfl), hf⟩
                  · replace hf := hf.trans (if_neg cd)
                    have hlt2 : i2 < zt := peek_lt hT2.1.1 hT2.1.2 ei2 hj2 (fun e9 => cd (by rw [e9, f_isDigit_s]; decide))
                    have hf_jn_next3 := hf
                    refine ss_join (pc2 := 188) (st2 := []) (J := fun H locs ls => ∃ (x5 : Int32), va_P D vwCl (WM cI cZ cB a u2) H ∧ va_D A (WM cI cZ cB a u2) ∧ va_S A s.heap H locs ∧ lv_has ls 5 [(3, .int x5), (4, .int (nI q)), (2, .int (f_isSmall (sg u1 25 (u1.1 4)) (f_peek (sg u1 25 (u1.1 4))))), (1, .int (f_peek (sg u1 25 (u1.1 4)))), (0, .ref (a 45))] ∧ jn_next3 u1 x3 u2 = x5) ?_ (fun kj_jn_next3 => ?_)
                    · clear hf
                      intro H locs ls hJ
                      obtain ⟨x5, hP, hD, hS, hl, hf⟩ := hJ
                      have e90 : (jn_next3 u1 x3 u2) = x5 := by rw [hf]
                      clear hf
                      have hf := hf_jn_next3
                      try rw [e90] at hf
                      clear e90
                      have hf_jn_next4 := hf
                      refine ss_join (pc2 := 212) (st2 := []) (J := fun H locs ls => ∃ (u3 : RS), (TI zt u3) ∧ (u3.1 4 = nI i2) ∧ va_P D vwCl (WM cI cZ cB a u3) H ∧ va_D A (WM cI cZ cB a u3) ∧ va_S A s.heap H locs ∧ lv_has ls 5 [(3, .int x5), (4, .int (nI q)), (2, .int (f_isSmall (sg u1 25 (u1.1 4)) (f_peek (sg u1 25 (u1.1 4))))), (1, .int (f_peek (sg u1 25 (u1.1 4)))), (0, .ref (a 45))] ∧ jn_next4 u2 q = u3) ?_ (fun kj_jn_next4 => ?_)
                      · clear hf
                        intro H locs ls hJ
                        obtain ⟨u3, hT3, ei3, hP, hD, hS, hl, hf⟩ := hJ
                        have e90 : (jn_next4 u2 q) = u3 := by rw [hf]
                        clear hf
                        have hf := hf_jn_next4
                        try rw [e90] at hf
                        clear e90
                        have hf_jn_next5 := hf
                        refine ss_join (pc2 := 237) (st2 := []) (J := fun H locs ls => ∃ (u4 : RS), (TI zt u4) ∧ (u4.1 4 = nI i2) ∧ va_P D vwCl (WM cI cZ cB a u4) H ∧ va_D A (WM cI cZ cB a u4) ∧ va_S A s.heap H locs ∧ lv_has ls 5 [(3, .int x5), (4, .int (nI q)), (2, .int (f_isSmall (sg u1 25 (u1.1 4)) (f_peek (sg u1 25 (u1.1 4))))), (1, .int (f_peek (sg u1 25 (u1.1 4)))), (0, .ref (a 45))] ∧ jn_next5 q u3 = u4) ?_ (fun kj_jn_next5 => ?_)
                        · clear hf
                          intro H locs ls hJ
                          obtain ⟨u4, hT4, ei4, hP, hD, hS, hl, hf⟩ := hJ
                          have e90 : (jn_next5 q u3) = u4 := by rw [hf]
                          clear hf
                          have hf := hf_jn_next5
                          try rw [e90] at hf
                          clear e90
                          refine lv_iinc (v := nI (q + 1)) (lv' := [(4, .int (nI (q + 1))), (3, .int x5), (2, .int (f_isSmall (sg u1 25 (u1.1 4)) (f_peek (sg u1 25 (u1.1 4))))), (1, .int (f_peek (sg u1 25 (u1.1 4)))), (0, .ref (a 45))]) hx hb dX9_next_237 hl (k := 1) rfl (by first | exact nI_add _ _ | rfl) (by decide) rfl (fun ls hl => ?_)
                          refine lv_aload_n hx hb dX9_next_240 rfl (lv_at hl 4 rfl) ?_
                          refine lv_dup hx hb dX9_next_241 rfl ?_
                          refine va_get (D := D) (ci := 10) (v := .int (u4.1 4)) (C := RX9) (T := TX9) (N := 45) hx hb hts im_X9_next_X9 hown hE.1 hP 0 rfl rfl 4 (by decide) (hts (.fieldLink RX9 116 "RiverBridgesModel" "p" "I") (by decide +kernel)) (fun _ h9 => h9) rfl dX9_next_242 ?_
                          refine lv_iconst (v := 1) hx hb dX9_next_245 (by decide) ?_
                          refine lx_iadd (v := (u4.1 4) + 1) hx hb (rfl) dX9_next_246 ?_
                          refine va_put (D := D) (ci := 10) (v := .int ((u4.1 4) + 1)) (ty := .int) (C := RX9) (T := TX9) (N := 45) hx hb hts im_X9_next_X9 tyX9 tyX9_ok nmX9 hown hE.1 hP hD hS 0 rfl rfl 4 (by decide) (hts (.fieldLink RX9 116 "RiverBridgesModel" "p" "I") (by decide +kernel)) (fun _ h9 => h9) rfl (by decide +kernel) rfl rfl (Nat.le_of_ble_eq_true rfl) dX9_next_247 (fun H locs hP hD hS => ?_)
                          have hP := va_P_eq (WM_g4 cI cZ cB a u4 ((u4.1 4) + 1)) hP
                          have hD := va_D_eq (WM_g4 cI cZ cB a u4 ((u4.1 4) + 1)) hD
                          refine lv_goto (tgt := 147) hx hb dX9_next_250 (by decide) ?_
                          exact ih_lp_next2 _ _ _ ⟨(sg u4 4 ((u4.1 4) + 1)), x5, (q + 1), (TI_4 (i := i2 + 1) hT4 (by rw [ei4]; exact nI_1 _) (by omega)), (⟨i2 + 1, (show upd u4.1 4 (u4.1 4 + 1) 4 = nI (i2 + 1) by rw [pk_us, ei4]; exact nI_1 _), by omega, by omega⟩), (by omega), hP, hD, hS, (lv_sub hl [1, 0, 2, 3, 4] rfl), hf⟩
                        · clear hf
                          have hf := jn_next5_s q u3
                          refine lv_iload hx hb dX9_next_212 (lv_at hl 1 rfl) ?_
                          refine lv_iconst (v := 4) hx hb dX9_next_214 (by decide) ?_
                          refine lv_icmp_ge (tgt := 237) hx hb dX9_next_215 (by decide) (fun c12 => ?_) (fun c12 => ?_)
                          · replace hf := hf.trans (if_pos c12)
                            exact kj_jn_next5 _ _ _ ⟨u3, (by first | exact hT3 | exact TI_sg hT3 (by decide)), (ei3), hP, hD, hS, (lv_sub hl [0, 1, 2, 3, 4] rfl), hf⟩
                          · replace hf := hf.trans (if_neg c12)
                            refine lv_aload_n hx hb dX9_next_218 rfl (lv_at hl 4 rfl) ?_
                            refine lv_bipush (v := 10) hx hb dX9_next_219 (by decide) ?_
                            refine lv_aload_n hx hb dX9_next_221 rfl (lv_at hl 4 rfl) ?_
                            refine va_get (D := D) (ci := 10) (v := .int (u3.1 26)) (C := RX9) (T := TX9) (N := 45) hx hb hts im_X9_next_X9 hown hE.1 hP 0 rfl rfl 26 (by decide) (hts (.fieldLink RX9 157 "RiverBridgesModel" "number" "I") (by decide +kernel)) (fun _ h9 => h9) rfl dX9_next_222 ?_
                            refine lx_imul (v := 10 * (u3.1 26)) hx hb (rfl) dX9_next_225 ?_
                            refine lv_aload_n hx hb dX9_next_226 rfl (lv_at hl 4 rfl) ?_
                            refine sf_calli (va_runV (As := []) (rest := [.int (10 * (u3.1 26)), .ref (a 45)]) ⟨hx, hb, hml, hown, hts⟩ (m_peek l D cI cZ cB cO cJ a0 H.size a _  u3  (hT3)) (cwV 0 hts gX9_next_X9_peek rfl rfl rfl (by decide +kernel) ⟨Nat.le_of_ble_eq_true rfl, Nat.le_of_ble_eq_true rfl⟩) (preV_full hE hZ hA hS hP hD (va_recv hE.1 hP (ci := 10) (q0 := 0) rfl rfl)) rfl rfl hl.1 rfl (lv_room (Nat.le_of_ble_eq_true rfl)) dX9_next_227 ⟨Nat.le_of_ble_eq_true rfl, Nat.le_of_ble_eq_true rfl⟩) hP hD hS hA (fun r9 u9 H locs hw hP hD hS => ?_)
                            subst hw
                            have hP : va_P D vwCl (WM cI cZ cB a u3) H := hP
                            have hD : va_D A (WM cI cZ cB a u3) := hD
                            refine lx_iadd (v := (10 * (u3.1 26)) + (f_peek u3)) hx hb (rfl) dX9_next_230 ?_
                            refine lv_bipush (v := 48) hx hb dX9_next_231 (by decide) ?_
                            refine lx_isub (v := ((10 * (u3.1 26)) + (f_peek u3)) - 48) hx hb (rfl) dX9_next_233 ?_
                            refine va_put (D := D) (ci := 10) (v := .int (((10 * (u3.1 26)) + (f_peek u3)) - 48)) (ty := .int) (C := RX9) (T := TX9) (N := 45) hx hb hts im_X9_next_X9 tyX9 tyX9_ok nmX9 hown hE.1 hP hD hS 0 rfl rfl 26 (by decide) (hts (.fieldLink RX9 157 "RiverBridgesModel" "number" "I") (by decide +kernel)) (fun _ h9 => h9) rfl (by decide +kernel) rfl rfl (Nat.le_of_ble_eq_true rfl) dX9_next_234 (fun H locs hP hD hS => ?_)
                            have hP := va_P_eq (WM_g26 cI cZ cB a u3 (((10 * (u3.1 26)) + (f_peek u3)) - 48)) hP
                            have hD := va_D_eq (WM_g26 cI cZ cB a u3 (((10 * (u3.1 26)) + (f_peek u3)) - 48)) hD
                            exact kj_jn_next5 _ _ _ ⟨(sg u3 26 (((10 * (u3.1 26)) + (f_peek u3)) - 48)), (by first | exact hT3 | exact TI_sg hT3 (by decide)), (ei3), hP, hD, hS, (lv_sub hl [0, 1, 2, 3, 4] rfl), hf⟩
                      · clear hf
                        have hf := jn_next4_s u2 q
                        refine lv_iload hx hb dX9_next_188 (lv_at hl 1 rfl) ?_
                        refine lv_bipush (v := 7) hx hb dX9_next_190 (by decide) ?_
                        refine lv_icmp_ge (tgt := 212) hx hb dX9_next_192 (by decide) (fun c13 => ?_) (fun c13 => ?_)
                        · replace hf := hf.trans (if_pos c13)
                          exact kj_jn_next4 _ _ _ ⟨u2, (by first | exact hT2 | exact TI_sw hT2), (ei2), hP, hD, hS, (lv_sub hl [0, 1, 2, 3, 4] rfl), hf⟩
                        · replace hf := hf.trans (if_neg c13)
                          refine lv_aload_n hx hb dX9_next_195 rfl (lv_at hl 4 rfl) ?_
                          refine lv_aload_n hx hb dX9_next_196 rfl (lv_at hl 4 rfl) ?_
                          refine va_get (D := D) (ci := 10) (v := .long u2.2.1) (C := RX9) (T := TX9) (N := 45) hx hb hts im_X9_next_X9 hown hE.1 hP 0 rfl rfl 30 (by decide) (hts (.fieldLink RX9 153 "RiverBridgesModel" "word" "J") (by decide +kernel)) (fun _ h9 => h9) rfl dX9_next_197 ?_
                          refine lv_bipush (v := 8) hx hb dX9_next_200 (by decide) ?_
                          refine lv_lshl (v := u2.2.1 <<< ((8 : Int32).toInt64 &&& 63)) hx hb dX9_next_202 rfl ?_
                          refine lv_aload_n hx hb dX9_next_203 rfl (lv_at hl 4 rfl) ?_
                          refine sf_calli (va_runV (As := []) (rest := [.long (u2.2.1 <<< ((8 : Int32).toInt64 &&& 63)), .ref (a 45)]) ⟨hx, hb, hml, hown, hts⟩ (m_peek l D cI cZ cB cO cJ a0 H.size a _  u2  (hT2)) (cwV 0 hts gX9_next_X9_peek rfl rfl rfl (by decide +kernel) ⟨Nat.le_of_ble_eq_true rfl, Nat.le_of_ble_eq_true rfl⟩) (preV_full hE hZ hA hS hP hD (va_recv hE.1 hP (ci := 10) (q0 := 0) rfl rfl)) rfl rfl hl.1 rfl (lv_room (Nat.le_of_ble_eq_true rfl)) dX9_next_204 ⟨Nat.le_of_ble_eq_true rfl, Nat.le_of_ble_eq_true rfl⟩) hP hD hS hA (fun r9 u9 H locs hw hP hD hS => ?_)
                          subst hw
                          have hP : va_P D vwCl (WM cI cZ cB a u2) H := hP
                          have hD : va_D A (WM cI cZ cB a u2) := hD
                          refine lv_i2l (v := (f_peek u2).toInt64) hx hb dX9_next_207 rfl ?_
                          refine lv_lor hx hb dX9_next_208 ?_
                          refine va_put (D := D) (ci := 10) (v := .long ((u2.2.1 <<< ((8 : Int32).toInt64 &&& 63)) ||| ((f_peek u2).toInt64))) (ty := .long) (C := RX9) (T := TX9) (N := 45) hx hb hts im_X9_next_X9 tyX9 tyX9_ok nmX9 hown hE.1 hP hD hS 0 rfl rfl 30 (by decide) (hts (.fieldLink RX9 153 "RiverBridgesModel" "word" "J") (by decide +kernel)) (fun _ h9 => h9) rfl (by decide +kernel) rfl rfl (Nat.le_of_ble_eq_true rfl) dX9_next_209 (fun H locs hP hD hS => ?_)
                          have hP := va_P_eq (WM_g30 cI cZ cB a u2 ((u2.2.1 <<< ((8 : Int32).toInt64 &&& 63)) ||| ((f_peek u2).toInt64))) hP
                          have hD := va_D_eq (WM_g30 cI cZ cB a u2 ((u2.2.1 <<< ((8 : Int32).toInt64 &&& 63)) ||| ((f_peek u2).toInt64))) hD
                          exact kj_jn_next4 _ _ _ ⟨(sw u2 ((u2.2.1 <<< ((8 : Int32).toInt64 &&& 63)) ||| ((f_peek u2).toInt64))), (by first | exact hT2 | exact TI_sw hT2), (ei2), hP, hD, hS, (lv_sub hl [0, 1, 2, 3, 4] rfl), hf⟩
                    · clear hf
                      have hf := jn_next3_s u1 x3 u2
                      refine lv_iload_n hx hb dX9_next_167 rfl (lv_at hl 0 rfl) ?_
                      refine lv_if_eq (tgt := 186) hx hb dX9_next_168 (by decide) (fun c14 => ?_) (fun c14 => ?_)
                      · replace hf := hf.trans (if_pos c14)
                        refine lv_iconst (v := 0) hx hb dX9_next_186 (by decide) ?_
                        refine lv_istore_n (lv' := [(3, .int 0), (4, .int (nI q)), (2, .int (f_isSmall (sg u1 25 (u1.1 4)) (f_peek (sg u1 25 (u1.1 4))))), (1, .int (f_peek (sg u1 25 (u1.1 4)))), (0, .ref (a 45))]) hx hb dX9_next_187 rfl hl (by decide) rfl (fun ls hl => ?_)
                        exact kj_jn_next3 _ _ _ ⟨0, hP, hD, hS, (lv_sub hl [0, 1, 2, 3, 4] rfl), hf⟩
                      · replace hf := hf.trans (if_neg c14)
                        refine lv_aload_n hx hb dX9_next_171 rfl (lv_at hl 4 rfl) ?_
                        refine sf_calli (va_runV (As := []) (rest := []) ⟨hx, hb, hml, hown, hts⟩ (m_peek l D cI cZ cB cO cJ a0 H.size a _  u2  (hT2)) (cwV 0 hts gX9_next_X9_peek rfl rfl rfl (by decide +kernel) ⟨Nat.le_of_ble_eq_true rfl, Nat.le_of_ble_eq_true rfl⟩) (preV_full hE hZ hA hS hP hD (va_recv hE.1 hP (ci := 10) (q0 := 0) rfl rfl)) rfl rfl hl.1 rfl (lv_room (Nat.le_of_ble_eq_true rfl)) dX9_next_172 ⟨Nat.le_of_ble_eq_true rfl, Nat.le_of_ble_eq_true rfl⟩) hP hD hS hA (fun r9 u9 H locs hw hP hD hS => ?_)
                        subst hw
                        have hP : va_P D vwCl (WM cI cZ cB a u2) H := hP
                        have hD : va_D A (WM cI cZ cB a u2) := hD
                        refine sf_calli (va_runS (As := [.int (f_peek u2)]) (rest := []) ⟨hx, hb, hml, hown, hts⟩ (m_isSmall l D cI cZ cB cO cJ a0 H.size a  u2 (f_peek u2) ) (cwS 1 hts gX9_next_X9_isSmall rfl rfl rfl (by decide +kernel) ⟨Nat.le_of_ble_eq_true rfl, Nat.le_of_ble_eq_true rfl⟩) (preS_full hE hZ hA hS hP hD) rfl rfl hl.1 rfl (lv_room (Nat.le_of_ble_eq_true rfl)) dX9_next_175 ⟨Nat.le_of_ble_eq_true rfl, Nat.le_of_ble_eq_true rfl⟩) hP hD hS hA (fun r9 u9 H locs hw hP hD hS => ?_)
                        subst hw
                        have hP : va_P D vwCl (WM cI cZ cB a u2) H := hP
                        have hD : va_D A (WM cI cZ cB a u2) := hD
                        refine lv_iload_n hx hb dX9_next_178 rfl (lv_at hl 2 rfl) ?_
                        refine lv_icmp_ne (tgt := 186) hx hb dX9_next_179 (by decide) (fun c15 => ?_) (fun c15 => ?_)
                        · replace hf := hf.trans (if_neg c15)
                          refine lv_iconst (v := 0) hx hb dX9_next_186 (by decide) ?_
                          refine lv_istore_n (lv' := [(3, .int 0), (4, .int (nI q)), (2, .int (f_isSmall (sg u1 25 (u1.1 4)) (f_peek (sg u1 25 (u1.1 4))))), (1, .int (f_peek (sg u1 25 (u1.1 4)))), (0, .ref (a 45))]) hx hb dX9_next_187 rfl hl (by decide) rfl (fun ls hl => ?_)
                          exact kj_jn_next3 _ _ _ ⟨0, hP, hD, hS, (lv_sub hl [0, 1, 2, 3, 4] rfl), hf⟩
                        · replace hf := hf.trans (if_pos c15)
                          refine lv_iconst (v := 1) hx hb dX9_next_182 (by decide) ?_
                          refine lv_goto (tgt := 187) hx hb dX9_next_183 (by decide) ?_
                          refine lv_istore_n (lv' := [(3, .int 1), (4, .int (nI q)), (2, .int (f_isSmall (sg u1 25 (u1.1 4)) (f_peek (sg u1 25 (u1.1 4))))), (1, .int (f_peek (sg u1 25 (u1.1 4)))), (0, .ref (a 45))]) hx hb dX9_next_187 rfl hl (by decide) rfl (fun ls hl => ?_)
                          exact kj_jn_next3 _ _ _ ⟨1, hP, hD, hS, (lv_sub hl [0, 1, 2, 3, 4] rfl), hf⟩
            · clear hf_jn_next2
              refine lv_iload_n hx hb dX9_next_87 rfl (lv_at hl 0 rfl) ?_
              refine sf_calli (va_runS (As := [.int (f_peek (sg u1 25 (u1.1 4)))]) (rest := []) ⟨hx, hb, hml, hown, hts⟩ (m_isSmall l D cI cZ cB cO cJ a0 H.size a  (sg u1 25 (u1.1 4)) (f_peek (sg u1 25 (u1.1 4))) ) (cwS 1 hts gX9_next_X9_isSmall rfl rfl rfl (by decide +kernel) ⟨Nat.le_of_ble_eq_true rfl, Nat.le_of_ble_eq_true rfl⟩) (preS_full hE hZ hA hS hP hD) rfl rfl hl.1 rfl (lv_room (Nat.le_of_ble_eq_true rfl)) dX9_next_88 ⟨Nat.le_of_ble_eq_true rfl, Nat.le_of_ble_eq_true rfl⟩) hP hD hS hA (fun r9 u9 H locs hw hP hD hS => ?_)
              subst hw
              have hP : va_P D vwCl (WM cI cZ cB a (sg u1 25 (u1.1 4))) H := hP
              have hD : va_D A (WM cI cZ cB a (sg u1 25 (u1.1 4))) := hD
              refine lv_if_ne (tgt := 127) hx hb dX9_next_91 (by decide) (fun c16 => ?_) (fun c16 => ?_)
              · replace hf := hf.trans (if_neg c16)
                exact kj_jn_next2 _ _ _ ⟨(), hP, hD, hS, (lv_sub hl [0, 1] rfl), hf⟩
              · replace hf := hf.trans (if_pos c16)
                refine lv_iload_n hx hb dX9_next_94 rfl (lv_at hl 0 rfl) ?_
                refine sf_calli (va_runS (As := [.int (f_peek (sg u1 25 (u1.1 4)))]) (rest := []) ⟨hx, hb, hml, hown, hts⟩ (m_isDigit l D cI cZ cB cO cJ a0 H.size a  (sg u1 25 (u1.1 4)) (f_peek (sg u1 25 (u1.1 4))) ) (cwS 1 hts gX9_next_X9_isDigit rfl rfl rfl (by decide +kernel) ⟨Nat.le_of_ble_eq_true rfl, Nat.le_of_ble_eq_true rfl⟩) (preS_full hE hZ hA hS hP hD) rfl rfl hl.1 rfl (lv_room (Nat.le_of_ble_eq_true rfl)) dX9_next_95 ⟨Nat.le_of_ble_eq_true rfl, Nat.le_of_ble_eq_true rfl⟩) hP hD hS hA (fun r9 u9 H locs hw hP hD hS => ?_)
                subst hw
                have hP : va_P D vwCl (WM cI cZ cB a (sg u1 25 (u1.1 4))) H := hP
                have hD : va_D A (WM cI cZ cB a (sg u1 25 (u1.1 4))) := hD
                refine lv_if_ne (tgt := 127) hx hb dX9_next_98 (by decide) (fun c17 => ?_) (fun c17 => ?_)
                · replace hf := hf.trans (if_neg c17)
                  exact kj_jn_next2 _ _ _ ⟨(), hP, hD, hS, (lv_sub hl [0, 1] rfl), hf⟩
                · replace hf := hf.trans (if_pos c17)
                  refine lv_aload_n hx hb dX9_next_101 rfl (lv_at hl 1 rfl) ?_
                  refine lv_iload_n hx hb dX9_next_102 rfl (lv_at hl 0 rfl) ?_
                  refine lv_bipush (v := 59) hx hb dX9_next_103 (by decide) ?_
                  refine lv_icmp_ne (tgt := 112) hx hb dX9_next_105 (by decide) (fun c18 => ?_) (fun c18 => ?_)
                  · replace hf := hf.trans (if_neg c18)
                    refine lv_iconst (v := 4) hx hb dX9_next_112 (by decide) ?_
                    refine va_put (D := D) (ci := 10) (v := .int 4) (ty := .int) (C := RX9) (T := TX9) (N := 45) hx hb hts im_X9_next_X9 tyX9 tyX9_ok nmX9 hown hE.1 hP hD hS 0 rfl rfl 24 (by decide) (hts (.fieldLink RX9 143 "RiverBridgesModel" "token" "I") (by decide +kernel)) (fun _ h9 => h9) rfl (by decide +kernel) rfl rfl (Nat.le_of_ble_eq_true rfl) dX9_next_113 (fun H locs hP hD hS => ?_)
                    have hP := va_P_eq (WM_g24 cI cZ cB a (sg u1 25 (u1.1 4)) 4) hP
                    have hD := va_D_eq (WM_g24 cI cZ cB a (sg u1 25 (u1.1 4)) 4) hD
                    refine lv_aload_n hx hb dX9_next_116 rfl (lv_at hl 1 rfl) ?_
                    refine lv_dup hx hb dX9_next_117 rfl ?_
                    refine va_get (D := D) (ci := 10) (v := .int (u1.1 4)) (C := RX9) (T := TX9) (N := 45) hx hb hts im_X9_next_X9 hown hE.1 hP 0 rfl rfl 4 (by decide) (hts (.fieldLink RX9 116 "RiverBridgesModel" "p" "I") (by decide +kernel)) (fun _ h9 => h9) rfl dX9_next_118 ?_
                    refine lv_iconst (v := 1) hx hb dX9_next_121 (by decide) ?_
                    refine lx_iadd (v := (u1.1 4) + 1) hx hb (rfl) dX9_next_122 ?_
                    refine va_put (D := D) (ci := 10) (v := .int ((u1.1 4) + 1)) (ty := .int) (C := RX9) (T := TX9) (N := 45) hx hb hts im_X9_next_X9 tyX9 tyX9_ok nmX9 hown hE.1 hP hD hS 0 rfl rfl 4 (by decide) (hts (.fieldLink RX9 116 "RiverBridgesModel" "p" "I") (by decide +kernel)) (fun _ h9 => h9) rfl (by decide +kernel) rfl rfl (Nat.le_of_ble_eq_true rfl) dX9_next_123 (fun H locs hP hD hS => ?_)
                    have hP := va_P_eq (WM_g4 cI cZ cB a (sg (sg u1 25 (u1.1 4)) 24 4) ((u1.1 4) + 1)) hP
                    have hD := va_D_eq (WM_g4 cI cZ cB a (sg (sg u1 25 (u1.1 4)) 24 4) ((u1.1 4) + 1)) hD
                    exact ss_vret () hx hb hr hlocks (by rw [hf]; exact hP) (by rw [hf]; exact hD) hS trivial (Nat.le_of_ble_eq_true rfl) (Nat.le_of_ble_eq_true rfl) dX9_next_126
                  · replace hf := hf.trans (if_pos c18)
                    refine lv_iconst (v := 3) hx hb dX9_next_108 (by decide) ?_
                    refine lv_goto (tgt := 113) hx hb dX9_next_109 (by decide) ?_
                    refine va_put (D := D) (ci := 10) (v := .int 3) (ty := .int) (C := RX9) (T := TX9) (N := 45) hx hb hts im_X9_next_X9 tyX9 tyX9_ok nmX9 hown hE.1 hP hD hS 0 rfl rfl 24 (by decide) (hts (.fieldLink RX9 143 "RiverBridgesModel" "token" "I") (by decide +kernel)) (fun _ h9 => h9) rfl (by decide +kernel) rfl rfl (Nat.le_of_ble_eq_true rfl) dX9_next_113 (fun H locs hP hD hS => ?_)
                    have hP := va_P_eq (WM_g24 cI cZ cB a (sg u1 25 (u1.1 4)) 3) hP
                    have hD := va_D_eq (WM_g24 cI cZ cB a (sg u1 25 (u1.1 4)) 3) hD
                    refine lv_aload_n hx hb dX9_next_116 rfl (lv_at hl 1 rfl) ?_
                    refine lv_dup hx hb dX9_next_117 rfl ?_
                    refine va_get (D := D) (ci := 10) (v := .int (u1.1 4)) (C := RX9) (T := TX9) (N := 45) hx hb hts im_X9_next_X9 hown hE.1 hP 0 rfl rfl 4 (by decide) (hts (.fieldLink RX9 116 "RiverBridgesModel" "p" "I") (by decide +kernel)) (fun _ h9 => h9) rfl dX9_next_118 ?_
                    refine lv_iconst (v := 1) hx hb dX9_next_121 (by decide) ?_
                    refine lx_iadd (v := (u1.1 4) + 1) hx hb (rfl) dX9_next_122 ?_
                    refine va_put (D := D) (ci := 10) (v := .int ((u1.1 4) + 1)) (ty := .int) (C := RX9) (T := TX9) (N := 45) hx hb hts im_X9_next_X9 tyX9 tyX9_ok nmX9 hown hE.1 hP hD hS 0 rfl rfl 4 (by decide) (hts (.fieldLink RX9 116 "RiverBridgesModel" "p" "I") (by decide +kernel)) (fun _ h9 => h9) rfl (by decide +kernel) rfl rfl (Nat.le_of_ble_eq_true rfl) dX9_next_123 (fun H locs hP hD hS => ?_)
                    have hP := va_P_eq (WM_g4 cI cZ cB a (sg (sg u1 25 (u1.1 4)) 24 3) ((u1.1 4) + 1)) hP
                    have hD := va_D_eq (WM_g4 cI cZ cB a (sg (sg u1 25 (u1.1 4)) 24 3) ((u1.1 4) + 1)) hD
                    exact ss_vret () hx hb hr hlocks (by rw [hf]; exact hP) (by rw [hf]; exact hD) hS trivial (Nat.le_of_ble_eq_true rfl) (Nat.le_of_ble_eq_true rfl) dX9_next_126
          · replace hf := hf.trans (if_neg c1)
            refine lv_aload_n hx hb dX9_next_81 rfl (lv_at hl 1 rfl) ?_
            refine lv_iconst (v := 0) hx hb dX9_next_82 (by decide) ?_
            refine va_put (D := D) (ci := 10) (v := .int 0) (ty := .int) (C := RX9) (T := TX9) (N := 45) hx hb hts im_X9_next_X9 tyX9 tyX9_ok nmX9 hown hE.1 hP hD hS 0 rfl rfl 24 (by decide) (hts (.fieldLink RX9 143 "RiverBridgesModel" "token" "I") (by decide +kernel)) (fun _ h9 => h9) rfl (by decide +kernel) rfl rfl (Nat.le_of_ble_eq_true rfl) dX9_next_83 (fun H locs hP hD hS => ?_)
            have hP := va_P_eq (WM_g24 cI cZ cB a (sg u1 25 (u1.1 4)) 0) hP
            have hD := va_D_eq (WM_g24 cI cZ cB a (sg u1 25 (u1.1 4)) 0) hD
            exact ss_vret () hx hb hr hlocks (by rw [hf]; exact hP) (by rw [hf]; exact hD) hS trivial (Nat.le_of_ble_eq_true rfl) (Nat.le_of_ble_eq_true rfl) dX9_next_86
        · clear hf_jn_next1
          refine lv_aload_n hx hb dX9_next_39 rfl (lv_at hl 0 rfl) ?_
          refine va_get (D := D) (ci := 10) (v := .int (u1.1 3)) (C := RX9) (T := TX9) (N := 45) hx hb hts im_X9_next_X9 hown hE.1 hP 0 rfl rfl 3 (by decide) (hts (.fieldLink RX9 113 "RiverBridgesModel" "size" "I") (by decide +kernel)) (fun _ h9 => h9) rfl dX9_next_40 ?_
          refine lv_sipush (v := 400) hx hb dX9_next_43 (by decide) ?_
          refine lv_icmp_le (tgt := 72) hx hb dX9_next_46 (by decide) (fun c19 => ?_) (fun c19 => ?_)
          · replace hf := hf.trans (if_pos c19)
            exact kj_jn_next1 _ _ _ ⟨(), hP, hD, hS, (lv_sub hl [0] rfl), hf⟩
          · replace hf := hf.trans (if_neg c19)
            refine lv_aload_n hx hb dX9_next_49 rfl (lv_at hl 0 rfl) ?_
            refine va_get (D := D) (ci := 10) (v := .int (u1.1 4)) (C := RX9) (T := TX9) (N := 45) hx hb hts im_X9_next_X9 hown hE.1 hP 0 rfl rfl 4 (by decide) (hts (.fieldLink RX9 116 "RiverBridgesModel" "p" "I") (by decide +kernel)) (fun _ h9 => h9) rfl dX9_next_50 ?_
            refine lv_sipush (v := 400) hx hb dX9_next_53 (by decide) ?_
            refine lv_icmp_lt (tgt := 72) hx hb dX9_next_56 (by decide) (fun c20 => ?_) (fun c20 => ?_)
            · replace hf := hf.trans (if_pos c20)
              exact kj_jn_next1 _ _ _ ⟨(), hP, hD, hS, (lv_sub hl [0] rfl), hf⟩
            · replace hf := hf.trans (if_neg c20)
              refine lv_aload_n hx hb dX9_next_59 rfl (lv_at hl 0 rfl) ?_
              refine lv_sipush (v := 400) hx hb dX9_next_60 (by decide) ?_
              refine va_put (D := D) (ci := 10) (v := .int 400) (ty := .int) (C := RX9) (T := TX9) (N := 45) hx hb hts im_X9_next_X9 tyX9 tyX9_ok nmX9 hown hE.1 hP hD hS 0 rfl rfl 25 (by decide) (hts (.fieldLink RX9 140 "RiverBridgesModel" "at" "I") (by decide +kernel)) (fun _ h9 => h9) rfl (by decide +kernel) rfl rfl (Nat.le_of_ble_eq_true rfl) dX9_next_63 (fun H locs hP hD hS => ?_)
              have hP := va_P_eq (WM_g25 cI cZ cB a (sg u1 25 (u1.1 4)) 400) hP
              have hD := va_D_eq (WM_g25 cI cZ cB a (sg u1 25 (u1.1 4)) 400) hD
              refine lv_aload_n hx hb dX9_next_66 rfl (lv_at hl 0 rfl) ?_
              refine lv_iconst (v := 0) hx hb dX9_next_67 (by decide) ?_
              refine va_put (D := D) (ci := 10) (v := .int 0) (ty := .int) (C := RX9) (T := TX9) (N := 45) hx hb hts im_X9_next_X9 tyX9 tyX9_ok nmX9 hown hE.1 hP hD hS 0 rfl rfl 24 (by decide) (hts (.fieldLink RX9 143 "RiverBridgesModel" "token" "I") (by decide +kernel)) (fun _ h9 => h9) rfl (by decide +kernel) rfl rfl (Nat.le_of_ble_eq_true rfl) dX9_next_68 (fun H locs hP hD hS => ?_)
              have hP := va_P_eq (WM_g24 cI cZ cB a (sg (sg u1 25 (u1.1 4)) 25 400) 0) hP
              have hD := va_D_eq (WM_g24 cI cZ cB a (sg (sg u1 25 (u1.1 4)) 25 400) 0) hD
              exact ss_vret () hx hb hr hlocks (by rw [hf]; exact hP) (by rw [hf]; exact hD) hS trivial (Nat.le_of_ble_eq_true rfl) (Nat.le_of_ble_eq_true rfl) dX9_next_71
      · replace hf := hf.trans (if_pos c10)
        have hlt : i < zt := peek_lt hT1.1.1 hT1.1.2 ei hi2 (by rw [c10]; decide)
        refine lv_aload_n hx hb dX9_next_18 rfl (lv_at hl 0 rfl) ?_
        refine lv_dup hx hb dX9_next_19 rfl ?_
        refine va_get (D := D) (ci := 10) (v := .int (u1.1 4)) (C := RX9) (T := TX9) (N := 45) hx hb hts im_X9_next_X9 hown hE.1 hP 0 rfl rfl 4 (by decide) (hts (.fieldLink RX9 116 "RiverBridgesModel" "p" "I") (by decide +kernel)) (fun _ h9 => h9) rfl dX9_next_20 ?_
        refine lv_iconst (v := 1) hx hb dX9_next_23 (by decide) ?_
        refine lx_iadd (v := (u1.1 4) + 1) hx hb (rfl) dX9_next_24 ?_
        refine va_put (D := D) (ci := 10) (v := .int ((u1.1 4) + 1)) (ty := .int) (C := RX9) (T := TX9) (N := 45) hx hb hts im_X9_next_X9 tyX9 tyX9_ok nmX9 hown hE.1 hP hD hS 0 rfl rfl 4 (by decide) (hts (.fieldLink RX9 116 "RiverBridgesModel" "p" "I") (by decide +kernel)) (fun _ h9 => h9) rfl (by decide +kernel) rfl rfl (Nat.le_of_ble_eq_true rfl) dX9_next_25 (fun H locs hP hD hS => ?_)
        have hP := va_P_eq (WM_g4 cI cZ cB a u1 ((u1.1 4) + 1)) hP
        have hD := va_D_eq (WM_g4 cI cZ cB a u1 ((u1.1 4) + 1)) hD
        refine lv_goto (tgt := 0) hx hb dX9_next_28 (by decide) ?_
        exact ih_lp_next1 _ _ _ ⟨(sg u1 4 ((u1.1 4) + 1)), (TI_4 (i := i + 1) hT1 (by rw [ei]; exact nI_1 _) (by omega)), (⟨i + 1, (show upd u1.1 4 (u1.1 4 + 1) 4 = nI (i + 1) by rw [pk_us, ei]; exact nI_1 _), by omega, by omega⟩), hP, hD, hS, (lv_sub hl [0] rfl), hf⟩
