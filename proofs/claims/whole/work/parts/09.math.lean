/-! The document's times, as natural numbers. An instruction: T, GETS, READS, LATE, LOAD, WAIT, WRONG; its times: F, D, X, M, W. -/
abbrev kIns : Type := Nat × Nat × Int32 × Nat × Bool × Nat × Bool
def mt_t (i : kIns) : Nat := i.1
def mt_g (i : kIns) : Nat := i.2.1
def mt_r (i : kIns) : Int32 := i.2.2.1
def mt_l (i : kIns) : Nat := i.2.2.2.1
def mt_ld (i : kIns) : Bool := i.2.2.2.2.1
def mt_w (i : kIns) : Nat := i.2.2.2.2.2.1
def mt_wr (i : kIns) : Bool := i.2.2.2.2.2.2
abbrev kTm : Type := Nat × Nat × Nat × Nat × Nat
def mt_bit (x : Int32) (r : Nat) : Bool := decide ((x >>> (nI r &&& 31)) &&& 1 = 1)
def mt_last (P : Nat → kIns) (r : Nat) : Nat → Option Nat
  | 0 => none
  | i + 1 => if mt_g (P i) = r then some i else mt_last P r i
def mt_xe (P : Nat → kIns) (q : Nat → kTm) (j : Nat) : Nat := (q j).2.2.1 + mt_t (P j) - 1
def mt_me (P : Nat → kIns) (q : Nat → kTm) (j : Nat) : Nat := (q j).2.2.2.1 + mt_w (P j)
def mt_beo (P : Nat → kIns) (q : Nat → kTm) (o : Option Nat) : Nat := match o with
  | none => 0
  | some j => (if mt_ld (P j) = true then mt_me P q j else mt_xe P q j) + 1
def mt_beh (P : Nat → kIns) (q : Nat → kTm) (i r : Nat) : Nat := mt_beo P q (mt_last P r i)
def mt_rd (P : Nat → kIns) (q : Nat → kTm) (i a : Nat) : Nat → Nat
  | 0 => a
  | r + 1 => if mt_bit (mt_r (P i)) (r + 1) = true then max (mt_rd P q i a r) (mt_beh P q i (r + 1)) else mt_rd P q i a r
def mt_pv (i : Nat) (f : Nat → Nat) : Nat := if i = 0 then 0 else f (i - 1)
def mt_sF (P : Nat → kIns) (q : Nat → kTm) (i : Nat) : Nat := if i = 0 then 1 else if mt_wr (P (i - 1)) = true then mt_xe P q (i - 1) + 1 else (q (i - 1)).2.1
def mt_sD (P : Nat → kIns) (q : Nat → kTm) (i : Nat) : Nat := max (mt_sF P q i + 1) (mt_pv i fun j => (q j).2.2.1)
def mt_sX (P : Nat → kIns) (q : Nat → kTm) (i : Nat) : Nat := mt_rd P q i (max (mt_sD P q i + 1) (mt_pv i fun j => (q j).2.2.2.1)) 15
def mt_lt (P : Nat → kIns) (q : Nat → kTm) (i : Nat) : Nat := if mt_l (P i) = 0 then 0 else mt_beh P q i (mt_l (P i))
def mt_sM (P : Nat → kIns) (q : Nat → kTm) (i : Nat) : Nat := max (max (mt_sX P q i + mt_t (P i) - 1 + 1) (mt_pv i fun j => (q j).2.2.2.2)) (mt_lt P q i)
def mt_step (P : Nat → kIns) (q : Nat → kTm) (i : Nat) : kTm := (mt_sF P q i, mt_sD P q i, mt_sX P q i, mt_sM P q i, mt_sM P q i + mt_w (P i) + 1)
def mt_tab (P : Nat → kIns) : Nat → Nat → kTm
  | 0 => fun _ => (0, 0, 0, 0, 0)
  | i + 1 => fun j => if j = i then mt_step P (mt_tab P i) i else mt_tab P i j
def mt_tm (P : Nat → kIns) (i : Nat) : kTm := mt_step P (mt_tab P i) i
def mt_ok (i : kIns) : Prop := 1 ≤ mt_t i ∧ mt_t i ≤ 12 ∧ mt_g i ≤ 15 ∧ mt_l i ≤ 15 ∧ mt_w i ≤ 8
theorem mt_last_lt {P : Nat → kIns} {r : Nat} : ∀ {i j : Nat}, mt_last P r i = some j → j < i ∧ mt_g (P j) = r
  | 0, j, h => by simp [mt_last] at h
  | i + 1, j, h => by
    unfold mt_last at h
    by_cases e : mt_g (P i) = r
    · rw [if_pos e] at h
      cases h
      exact ⟨Nat.lt_succ_self _, e⟩
    · rw [if_neg e] at h
      obtain ⟨h1, h2⟩ := mt_last_lt h
      exact ⟨Nat.lt_succ_of_lt h1, h2⟩
theorem mt_last_congr {P P' : Nat → kIns} {r : Nat} : ∀ {i : Nat}, (∀ j, j < i → P j = P' j) → mt_last P r i = mt_last P' r i
  | 0, _ => rfl
  | i + 1, h => by
    unfold mt_last
    rw [h i (Nat.lt_succ_self _), mt_last_congr (fun j hj => h j (Nat.lt_succ_of_lt hj))]
theorem mt_xe_congr {P P' : Nat → kIns} {q q' : Nat → kTm} {j : Nat} (hP : P j = P' j) (hq : q j = q' j) : mt_xe P q j = mt_xe P' q' j := by unfold mt_xe; rw [hP, hq]
theorem mt_me_congr {P P' : Nat → kIns} {q q' : Nat → kTm} {j : Nat} (hP : P j = P' j) (hq : q j = q' j) : mt_me P q j = mt_me P' q' j := by unfold mt_me; rw [hP, hq]
theorem mt_beh_congr {P P' : Nat → kIns} {q q' : Nat → kTm} {i : Nat} (hP : ∀ j, j < i → P j = P' j) (hq : ∀ j, j < i → q j = q' j) (r : Nat) : mt_beh P q i r = mt_beh P' q' i r := by
  unfold mt_beh
  rw [← mt_last_congr hP]
  cases h : mt_last P r i with
  | none => rfl
  | some j =>
    obtain ⟨hj, -⟩ := mt_last_lt h
    simp only [mt_beo]
    rw [hP j hj, mt_xe_congr (hP j hj) (hq j hj), mt_me_congr (hP j hj) (hq j hj)]
theorem mt_rd_congr {P P' : Nat → kIns} {q q' : Nat → kTm} {i : Nat} (hi : P i = P' i) (hP : ∀ j, j < i → P j = P' j) (hq : ∀ j, j < i → q j = q' j) (a : Nat) : ∀ r, mt_rd P q i a r = mt_rd P' q' i a r
  | 0 => rfl
  | r + 1 => by
    unfold mt_rd
    rw [hi, mt_beh_congr hP hq, mt_rd_congr hi hP hq a r]
theorem mt_pv_congr {i : Nat} {f g : Nat → Nat} (h : ∀ j, j < i → f j = g j) : mt_pv i f = mt_pv i g := by
  unfold mt_pv
  by_cases e : i = 0
  · rw [if_pos e, if_pos e]
  · rw [if_neg e, if_neg e, h _ (by omega)]
theorem mt_step_congr {P P' : Nat → kIns} {q q' : Nat → kTm} {i : Nat} (hP : ∀ j, j ≤ i → P j = P' j) (hq : ∀ j, j < i → q j = q' j) : mt_step P q i = mt_step P' q' i := by
  have hP1 : ∀ j, j < i → P j = P' j := fun j hj => hP j (Nat.le_of_lt hj)
  have hF : mt_sF P q i = mt_sF P' q' i := by
    unfold mt_sF
    by_cases e : i = 0
    · rw [if_pos e, if_pos e]
    · rw [if_neg e, if_neg e, hP1 (i - 1) (by omega), hq (i - 1) (by omega), mt_xe_congr (hP1 (i - 1) (by omega)) (hq (i - 1) (by omega))]
  have hD : mt_sD P q i = mt_sD P' q' i := by
    unfold mt_sD
    rw [hF, mt_pv_congr (fun j hj => by rw [hq j hj])]
  have hX : mt_sX P q i = mt_sX P' q' i := by
    unfold mt_sX
    rw [hD, mt_rd_congr (hP i (Nat.le_refl _)) hP1 hq, mt_pv_congr (f := fun j => (q j).2.2.2.1) (g := fun j => (q' j).2.2.2.1) (fun j hj => by rw [hq j hj])]
  have hM : mt_sM P q i = mt_sM P' q' i := by
    unfold mt_sM mt_lt
    rw [hX, hP i (Nat.le_refl _), mt_beh_congr hP1 hq, mt_pv_congr (f := fun j => (q j).2.2.2.2) (g := fun j => (q' j).2.2.2.2) (fun j hj => by rw [hq j hj])]
  unfold mt_step
  rw [hF, hD, hX, hM, hP i (Nat.le_refl _)]
theorem mt_tab_eq (P : Nat → kIns) : ∀ {i j : Nat}, j < i → mt_tab P i j = mt_tm P j
  | 0, _, h => absurd h (Nat.not_lt_zero _)
  | i + 1, j, h => by
    show (if j = i then mt_step P (mt_tab P i) i else mt_tab P i j) = _
    by_cases e : j = i
    · rw [if_pos e, e]
      rfl
    · rw [if_neg e]
      exact mt_tab_eq P (by omega)
theorem mt_tm_eq (P : Nat → kIns) (i : Nat) : mt_tm P i = mt_step P (mt_tm P) i := mt_step_congr (fun _ _ => rfl) (fun _ hj => mt_tab_eq P hj)
theorem mt_tm_congr {P P' : Nat → kIns} {i : Nat} (h : ∀ j, j ≤ i → P j = P' j) : mt_tm P i = mt_tm P' i := by
  induction i using Nat.strongRecOn with
  | ind i ih =>
    rw [mt_tm_eq P, mt_tm_eq P']
    exact mt_step_congr h (fun j hj => ih j hj (fun k hk => h k (by omega)))
/-- how far the times can go, and how they lie -/
theorem mt_bound {P : Nat → kIns} {i : Nat} (h : ∀ j, j ≤ i → mt_ok (P j)) : (mt_tm P i).1 ≤ 24 * i + 1 ∧ (mt_tm P i).2.1 ≤ 24 * i + 2 ∧ (mt_tm P i).2.2.1 ≤ 24 * i + 3 ∧ (mt_tm P i).2.2.2.1 ≤ 24 * i + 15 ∧ (mt_tm P i).2.2.2.2 ≤ 24 * i + 24 ∧
    (mt_tm P i).2.2.1 + mt_t (P i) ≤ (mt_tm P i).2.2.2.1 ∧ (mt_tm P i).2.2.2.2 = (mt_tm P i).2.2.2.1 + mt_w (P i) + 1 := by
  induction i using Nat.strongRecOn with
  | ind i ih =>
    have hb : ∀ r, mt_beh P (mt_tm P) i r ≤ 24 * i := fun r => by
      unfold mt_beh
      cases hl : mt_last P r i with
      | none => exact Nat.zero_le _
      | some j =>
        obtain ⟨hj, -⟩ := mt_last_lt hl
        obtain ⟨-, -, -, -, h5, h6, h7⟩ := ih j hj (fun k hk => h k (by omega))
        have hok := h j (by omega)
        unfold mt_ok at hok
        simp only [mt_beo, mt_me, mt_xe]
        split <;> omega
    have hrd : ∀ a r, mt_rd P (mt_tm P) i a r ≤ max a (24 * i) ∧ a ≤ mt_rd P (mt_tm P) i a r := fun a r => by
      induction r with
      | zero => unfold mt_rd; omega
      | succ r ihr =>
        have := hb (r + 1)
        unfold mt_rd
        split <;> omega
    have hok := h i (Nat.le_refl _)
    unfold mt_ok at hok
    have hp : i ≠ 0 → (mt_tm P (i - 1)).1 ≤ 24 * i ∧ (mt_tm P (i - 1)).2.1 ≤ 24 * i ∧ (mt_tm P (i - 1)).2.2.1 ≤ 24 * i ∧ (mt_tm P (i - 1)).2.2.2.1 ≤ 24 * i ∧ (mt_tm P (i - 1)).2.2.2.2 ≤ 24 * i ∧ mt_xe P (mt_tm P) (i - 1) + 1 ≤ 24 * i := fun hi => by
      obtain ⟨h1, h2, h3, h4, h5, h6, h7⟩ := ih (i - 1) (by omega) (fun k hk => h k (by omega))
      have hok1 := h (i - 1) (by omega)
      unfold mt_ok at hok1
      unfold mt_xe
      omega
    have hF : mt_sF P (mt_tm P) i ≤ 24 * i + 1 := by
      unfold mt_sF
      by_cases e : i = 0
      · rw [if_pos e]; omega
      · have := hp e
        rw [if_neg e]
        split <;> omega
    have hv : ∀ f : kTm → Nat, (i ≠ 0 → f (mt_tm P (i - 1)) ≤ 24 * i) → mt_pv i (fun j => f (mt_tm P j)) ≤ 24 * i := fun f hf => by
      unfold mt_pv
      by_cases e : i = 0
      · rw [if_pos e]; exact Nat.zero_le _
      · rw [if_neg e]; exact hf e
    have hD : mt_sD P (mt_tm P) i ≤ 24 * i + 2 := by
      have := hv (fun q => q.2.2.1) (fun e => (hp e).2.2.1)
      unfold mt_sD
      omega
    have hX : mt_sX P (mt_tm P) i ≤ 24 * i + 3 := by
      have := hv (fun q => q.2.2.2.1) (fun e => (hp e).2.2.2.1)
      have h2 := (hrd (max (mt_sD P (mt_tm P) i + 1) (mt_pv i fun j => (mt_tm P j).2.2.2.1)) 15).1
      unfold mt_sX
      omega
    have hlt : mt_lt P (mt_tm P) i ≤ 24 * i := by
      unfold mt_lt
      split
      · exact Nat.zero_le _
      · exact hb _
    have hM : mt_sM P (mt_tm P) i ≤ 24 * i + 15 ∧ mt_sX P (mt_tm P) i + mt_t (P i) ≤ mt_sM P (mt_tm P) i := by
      have := hv (fun q => q.2.2.2.2) (fun e => (hp e).2.2.2.2.1)
      unfold mt_sM
      omega
    rw [mt_tm_eq P i]
    show mt_sF P (mt_tm P) i ≤ _ ∧ mt_sD P (mt_tm P) i ≤ _ ∧ mt_sX P (mt_tm P) i ≤ _ ∧ mt_sM P (mt_tm P) i ≤ _ ∧ mt_sM P (mt_tm P) i + mt_w (P i) + 1 ≤ _ ∧ mt_sX P (mt_tm P) i + mt_t (P i) ≤ mt_sM P (mt_tm P) i ∧ mt_sM P (mt_tm P) i + mt_w (P i) + 1 = mt_sM P (mt_tm P) i + mt_w (P i) + 1
    omega
theorem mt_rd_max (P : Nat → kIns) (q : Nat → kTm) (i a : Nat) : ∀ r, mt_rd P q i a r = max a (mt_rd P q i 0 r)
  | 0 => by unfold mt_rd; omega
  | r + 1 => by
    unfold mt_rd
    have := mt_rd_max P q i a r
    split <;> omega
theorem mt_W_succ {P : Nat → kIns} {i : Nat} : (mt_tm P i).2.2.2.2 < (mt_tm P (i + 1)).2.2.2.2 := by
  rw [mt_tm_eq P (i + 1)]
  show _ < mt_sM P (mt_tm P) (i + 1) + mt_w (P (i + 1)) + 1
  have : mt_pv (i + 1) (fun j => (mt_tm P j).2.2.2.2) = (mt_tm P i).2.2.2.2 := rfl
  unfold mt_sM
  omega
theorem mt_W_mono {P : Nat → kIns} {i k : Nat} (h : i ≤ k) : (mt_tm P i).2.2.2.2 ≤ (mt_tm P k).2.2.2.2 := by
  induction k with
  | zero => rw [show i = 0 by omega]; exact Nat.le_refl _
  | succ k ih =>
    by_cases e : i = k + 1
    · rw [e]; exact Nat.le_refl _
    · have h1 := ih (by omega)
      have h2 := mt_W_succ (P := P) (i := k)
      omega
theorem mt_beh_le {P : Nat → kIns} {i : Nat} (h : ∀ j, j < i → mt_ok (P j)) (r : Nat) : mt_beh P (mt_tm P) i r ≤ 24 * i := by
  unfold mt_beh
  cases hl : mt_last P r i with
  | none => exact Nat.zero_le _
  | some j =>
    obtain ⟨hj, -⟩ := mt_last_lt hl
    obtain ⟨-, -, -, -, h5, h6, h7⟩ := mt_bound (P := P) (i := j) (fun k hk => h k (by omega))
    have hok := h j hj
    unfold mt_ok at hok
    simp only [mt_beo, mt_me, mt_xe]
    split <;> omega
theorem mt_rd_le {P : Nat → kIns} {i : Nat} (h : ∀ j, j < i → mt_ok (P j)) (a r : Nat) : mt_rd P (mt_tm P) i a r ≤ max a (24 * i) := by
  induction r with
  | zero => unfold mt_rd; omega
  | succ r ih =>
    have := mt_beh_le h (r + 1)
    unfold mt_rd
    split <;> omega
/-! the numbers of the machine -/
def kenc (o : Option Nat) : Int32 := match o with
  | none => -1
  | some j => nI j
theorem kmaxN {a b : Nat} (ha : a < 2 ^ 31) (hb : b < 2 ^ 31) : (if nI a < nI b then nI b else nI a) = nI (max a b) := by
  by_cases h : a < b
  · rw [if_pos ((nI_ltI ha hb).mpr h), show max a b = b by omega]
  · rw [if_neg (fun q => h ((nI_ltI ha hb).mp q)), show max a b = a by omega]
/-- what the clock's arrays hold of n instructions P; of their times; of the givers before i -/
def kIn (P : Nat → kIns) (n : Nat) (u : kU) : Prop := u 15 0 = nI n ∧ n ≤ 200 ∧ ∀ i, i < n → mt_ok (P i) ∧ u 0 i = nI (mt_t (P i)) ∧ u 1 i = nI (mt_g (P i)) ∧ u 2 i = mt_r (P i) ∧ u 3 i = nI (mt_l (P i)) ∧ u 4 i = kb (mt_ld (P i)) ∧ u 5 i = nI (mt_w (P i)) ∧ u 6 i = kb (mt_wr (P i))
def kRow (P : Nat → kIns) (i : Nat) (u : kU) : Prop := u 8 i = nI (mt_tm P i).1 ∧ u 9 i = nI (mt_tm P i).2.1 ∧ u 10 i = nI (mt_tm P i).2.2.1 ∧ u 11 i = nI (mt_tm P i).2.2.2.1 ∧ u 12 i = nI (mt_tm P i).2.2.2.2 ∧ u 13 i = nI (mt_xe P (mt_tm P) i) ∧ u 14 i = nI (mt_me P (mt_tm P) i)
def kTimes (P : Nat → kIns) (n : Nat) (u : kU) : Prop := ∀ i, i < n → kRow P i u
def kLat (P : Nat → kIns) (i : Nat) (u : kU) : Prop := u 7 0 = -1 ∧ ∀ r, 1 ≤ r → r ≤ 15 → u 7 r = kenc (mt_last P r i)
theorem kb_0 {b : Bool} (h : kb b = 0) : b = false := by cases b <;> first | rfl | (exact absurd h (by decide))
theorem kb_1 {b : Bool} (h : ¬ kb b = 0) : b = true := by cases b <;> first | rfl | (exact absurd rfl h)
theorem knI_m1 {j : Nat} (h : j < 2 ^ 31) : ¬ nI j = -1 := fun e => by
  have h1 := nI_toInt h
  rw [e] at h1
  have h2 : (-1 : Int32).toInt = -1 := by decide
  omega
theorem knI_z {i : Nat} (hi : i < 2 ^ 31) (h : nI i = 0) : i = 0 := (nI_eq hi (by decide)).mp (h.trans nI_0.symm)
theorem knI_s {i : Nat} (h : ¬ nI i = 0) : ∃ a, i = a + 1 := ⟨i - 1, by
  have : i ≠ 0 := fun e => h (by rw [e]; exact nI_0)
  omega⟩
theorem mt_F_0 (P : Nat → kIns) : (mt_tm P 0).1 = 1 := by rw [mt_tm_eq P 0]; rfl
theorem mt_F_t {P : Nat → kIns} {a : Nat} (h : mt_wr (P a) = true) : (mt_tm P (a + 1)).1 = mt_xe P (mt_tm P) a + 1 := by
  rw [mt_tm_eq P (a + 1)]
  show mt_sF P (mt_tm P) (a + 1) = _
  unfold mt_sF
  rw [if_neg (by omega), show a + 1 - 1 = a from rfl, if_pos h]
theorem mt_F_f {P : Nat → kIns} {a : Nat} (h : mt_wr (P a) = false) : (mt_tm P (a + 1)).1 = (mt_tm P a).2.1 := by
  rw [mt_tm_eq P (a + 1)]
  show mt_sF P (mt_tm P) (a + 1) = _
  unfold mt_sF
  rw [if_neg (by omega), show a + 1 - 1 = a from rfl, if_neg (by rw [h]; decide)]
def kprev (u : kU) (r i : Nat) : Int32 := if i = 0 then nI 0 else u (8 + r) (i - 1)
theorem kprev_0 (u : kU) (r : Nat) : kprev u r 0 = nI 0 := rfl
theorem kprev_s (u : kU) (r a : Nat) : kprev u r (a + 1) = u (8 + r) a := rfl
/-- what 'latest' says of a register -/
theorem kLat_get {P : Nat → kIns} {i r : Nat} {u : kU} (h : kLat P i u) (hr : r ≤ 15) : ∃ o : Option Nat, u 7 r = kenc o ∧ (if r = 0 then 0 else mt_beh P (mt_tm P) i r) = mt_beo P (mt_tm P) o ∧ ∀ j, o = some j → j < i := by
  by_cases e : r = 0
  · refine ⟨none, ?_, ?_, fun j hj => by cases hj⟩
    · rw [e]; exact h.1
    · rw [if_pos e]; rfl
  · refine ⟨mt_last P r i, h.2 r (by omega) hr, ?_, fun j hj => (mt_last_lt hj).1⟩
    rw [if_neg e]; rfl
def kFit (t g q w : Int32) : Prop := ¬ t < nI 1 ∧ ¬ nI 12 < t ∧ ¬ w < 0 ∧ w ≤ nI 8 ∧ ¬ g < 0 ∧ ¬ nI 15 < g ∧ ¬ q < 0 ∧ q ≤ nI 15
theorem mt_rd_f {P : Nat → kIns} {q : Nat → kTm} {i a r : Nat} (h : mt_bit (mt_r (P i)) (r + 1) = false) : mt_rd P q i a (r + 1) = mt_rd P q i a r := by
  show (if mt_bit (mt_r (P i)) (r + 1) = true then _ else _) = _
  rw [if_neg (by rw [h]; decide)]
theorem mt_rd_t {P : Nat → kIns} {q : Nat → kTm} {i a r : Nat} (h : mt_bit (mt_r (P i)) (r + 1) = true) : mt_rd P q i a (r + 1) = max (mt_rd P q i a r) (mt_beh P q i (r + 1)) := by
  show (if mt_bit (mt_r (P i)) (r + 1) = true then _ else _) = _
  rw [if_pos h]
theorem mt_D_eq (P : Nat → kIns) (i : Nat) : (mt_tm P i).2.1 = max ((mt_tm P i).1 + 1) (mt_pv i (fun j => (mt_tm P j).2.2.1)) := by
  rw [mt_tm_eq P i]
  rfl
theorem mt_X_eq (P : Nat → kIns) (i : Nat) : (mt_tm P i).2.2.1 = max (max ((mt_tm P i).2.1 + 1) (mt_pv i (fun j => (mt_tm P j).2.2.2.1))) (mt_rd P (mt_tm P) i 0 15) := by
  rw [mt_tm_eq P i]
  show mt_sX P (mt_tm P) i = _
  unfold mt_sX
  rw [mt_rd_max]
  rfl
theorem mt_M_eq (P : Nat → kIns) (i : Nat) : (mt_tm P i).2.2.2.1 = max (max (mt_xe P (mt_tm P) i + 1) (mt_pv i (fun j => (mt_tm P j).2.2.2.2))) (mt_lt P (mt_tm P) i) := by
  unfold mt_xe
  rw [mt_tm_eq P i]
  rfl
theorem mt_X_ge (P : Nat → kIns) (i : Nat) : (mt_tm P i).2.1 + 1 ≤ (mt_tm P i).2.2.1 := by
  have := mt_X_eq P i
  omega
theorem mt_lt_le {P : Nat → kIns} {i : Nat} (h : ∀ j, j < i → mt_ok (P j)) : mt_lt P (mt_tm P) i ≤ 24 * i := by
  unfold mt_lt
  split
  · exact Nat.zero_le _
  · exact mt_beh_le h _
theorem mt_pv_le {P : Nat → kIns} {i : Nat} (h : ∀ j, j < i → mt_ok (P j)) : mt_pv i (fun j => (mt_tm P j).2.2.1) ≤ 24 * i ∧ mt_pv i (fun j => (mt_tm P j).2.2.2.1) ≤ 24 * i ∧ mt_pv i (fun j => (mt_tm P j).2.2.2.2) ≤ 24 * i := by
  unfold mt_pv
  by_cases e : i = 0
  · simp only [if_pos e]; omega
  · simp only [if_neg e]
    obtain ⟨-, -, h3, h4, h5, -, -⟩ := mt_bound (P := P) (i := i - 1) (fun j hj => h j (by omega))
    omega
theorem kset_eq {u : kU} {j k : Nat} {x : Int32} : kset u j k x j k = x := by
  unfold kset
  rw [va_up_self]
  exact pk_us
theorem kset_ne {u : kU} {j k b : Nat} {x : Int32} (h : b ≠ j) : kset u j k x b = u b := va_up_ne _ _ h
theorem kset_off {u : kU} {j k b a : Nat} {x : Int32} (h : a ≠ k) : kset u j k x b a = u b a := by
  by_cases e : b = j
  · subst e
    unfold kset
    rw [va_up_self]
    exact pk_un h
  · rw [kset_ne e]
/-- only the times of i have changed -/
def kRows (i : Nat) (u x : kU) : Prop := (∀ j, j < 8 ∨ 15 ≤ j → x j = u j) ∧ ∀ j a, a ≠ i → x j a = u j a
theorem kRows_rf {i : Nat} {u : kU} : kRows i u u := ⟨fun _ _ => rfl, fun _ _ _ => rfl⟩
theorem kRows_set {i j : Nat} {u x : kU} {v : Int32} (h : kRows i u x) (h1 : 8 ≤ j) (h2 : j < 15) : kRows i u (kset x j i v) := ⟨fun b hb => (kset_ne (by omega)).trans (h.1 b hb), fun b a ha => (kset_off ha).trans (h.2 b a ha)⟩
theorem kIn_of {P : Nat → kIns} {n : Nat} {u x : kU} (hx : ∀ j, j < 7 ∨ j = 15 → x j = u j) (h : kIn P n u) : kIn P n x := by
  obtain ⟨h1, h2, h3⟩ := h
  refine ⟨by rw [hx 15 (Or.inr rfl)]; exact h1, h2, fun i hi => ?_⟩
  rw [hx 0 (by omega), hx 1 (by omega), hx 2 (by omega), hx 3 (by omega), hx 4 (by omega), hx 5 (by omega), hx 6 (by omega)]
  exact h3 i hi
theorem kIn_off {P : Nat → kIns} {n : Nat} {u x : kU} (hx : ∀ j, j ≠ 7 → x j = u j) (h : kIn P n u) : kIn P n x := kIn_of (fun j hj => hx j (by omega)) h
theorem kRow_of {P : Nat → kIns} {i : Nat} {u x : kU} (hx : ∀ j, 8 ≤ j → j < 15 → x j i = u j i) (h : kRow P i u) : kRow P i x := by
  unfold kRow at *
  rw [hx 8 (by decide) (by decide), hx 9 (by decide) (by decide), hx 10 (by decide) (by decide), hx 11 (by decide) (by decide), hx 12 (by decide) (by decide), hx 13 (by decide) (by decide), hx 14 (by decide) (by decide)]
  exact h
theorem kTimes_off {P : Nat → kIns} {n : Nat} {u x : kU} (hx : ∀ j, j ≠ 7 → x j = u j) (h : kTimes P n u) : kTimes P n x := fun i hi => kRow_of (fun j h1 _ => by rw [hx j (by omega)]) (h i hi)
theorem kRows.hin {P : Nat → kIns} {i n : Nat} {u x : kU} (h : kRows i u x) (hi : kIn P n u) : kIn P n x := kIn_of (fun j hj => h.1 j (by omega)) hi
theorem kRows.ht {P : Nat → kIns} {i : Nat} {u x : kU} (h : kRows i u x) (ht : kTimes P i u) : kTimes P i x := fun a ha => kRow_of (fun j _ _ => h.2 j a (by omega)) (ht a ha)
theorem kRows.hla {P : Nat → kIns} {i k : Nat} {u x : kU} (h : kRows i u x) (hl : kLat P k u) : kLat P k x := by
  unfold kLat at *
  rw [h.1 7 (by omega)]
  exact hl
theorem kRows.step {P : Nat → kIns} {i : Nat} {u x : kU} (h : kRows i u x) (ht : kTimes P i u) (hr : kRow P i x) : kTimes P (i + 1) x := fun a ha => by
  by_cases e : a = i
  · rw [e]; exact hr
  · exact h.ht ht a (by omega)
theorem kRows.prev {i r : Nat} {u x : kU} (h : kRows i u x) : kprev x r i = kprev u r i := by
  unfold kprev
  by_cases e : i = 0
  · rw [if_pos e, if_pos e]
  · rw [if_neg e, if_neg e, h.2 _ _ (by omega)]
theorem kprev_val {u : kU} {r i : Nat} {f : Nat → Nat} (h : ∀ a, a < i → u (8 + r) a = nI (f a)) : kprev u r i = nI (mt_pv i f) := by
  unfold kprev mt_pv
  by_cases e : i = 0
  · rw [if_pos e, if_pos e]
  · rw [if_neg e, if_neg e, h _ (by omega)]
theorem kLat_0 {P : Nat → kIns} {x : kU} (h : ∀ k, k < 16 → x 7 k = -1) : kLat P 0 x := ⟨h 0 (by decide), fun r _ h2 => h r (by omega)⟩
theorem kLat_same {P : Nat → kIns} {i : Nat} {u : kU} (h : kLat P i u) (hg : mt_g (P i) = 0) : kLat P (i + 1) u := ⟨h.1, fun r h1 h2 => by
  show u 7 r = kenc (if mt_g (P i) = r then some i else mt_last P r i)
  rw [if_neg (by omega)]
  exact h.2 r h1 h2⟩
theorem kLat_put {P : Nat → kIns} {i : Nat} {u : kU} (h : kLat P i u) (hg : mt_g (P i) ≠ 0) (hg15 : mt_g (P i) ≤ 15) : kLat P (i + 1) (kset u 7 (mt_g (P i)) (nI i)) := by
  refine ⟨?_, fun r h1 h2 => ?_⟩
  · rw [kset_off (by omega)]
    exact h.1
  · show _ = kenc (if mt_g (P i) = r then some i else mt_last P r i)
    by_cases e : mt_g (P i) = r
    · rw [if_pos e, ← e, kset_eq]
      rfl
    · rw [if_neg e, kset_off (by omega)]
      exact h.2 r h1 h2
theorem kfill_s {x : kU} {k : Nat} {vv : Int32} (h : ∀ a, a < k → x 7 a = vv) : ∀ a, a < k + 1 → kset x 7 k vv 7 a = vv := fun a ha => by
  by_cases e : a = k
  · rw [e]; exact kset_eq
  · rw [kset_off e]; exact h a (by omega)
/-! what the calls answer -/
def kmk (vt vg vr vl : Int32) (ld : Bool) (vw : Int32) (wr : Bool) : kIns := (vt.toNatClampNeg, vg.toNatClampNeg, vr, vl.toNatClampNeg, ld, vw.toNatClampNeg, wr)
theorem kfit_n {x : Int32} {a b : Nat} (ha : a < 2 ^ 31) (hb : b < 2 ^ 31) (h1 : ¬ x < nI a) (h2 : x ≤ nI b) : x = nI x.toNatClampNeg ∧ a ≤ x.toNatClampNeg ∧ x.toNatClampNeg ≤ b := by
  have e1 := nI_toInt ha
  have e2 := nI_toInt hb
  have h3 : ¬ x < 0 := fun q => h1 (by
    rw [Int32.lt_iff_toInt_lt] at q ⊢
    rw [e1]
    have : (0 : Int32).toInt = 0 := by decide
    omega)
  obtain ⟨j, hj, rfl⟩ := nI_of h3
  rw [nI_clamp hj]
  refine ⟨rfl, ?_, (nI_leI hj hb).mp h2⟩
  exact Nat.not_lt.mp fun q => h1 ((nI_ltI hj ha).mpr q)
theorem kFit_mk {vt vg vl vw : Int32} (h : kFit vt vg vl vw) (vr : Int32) (ld wr : Bool) : mt_ok (kmk vt vg vr vl ld vw wr) ∧ vt = nI (mt_t (kmk vt vg vr vl ld vw wr)) ∧ vg = nI (mt_g (kmk vt vg vr vl ld vw wr)) ∧ vl = nI (mt_l (kmk vt vg vr vl ld vw wr)) ∧ vw = nI (mt_w (kmk vt vg vr vl ld vw wr)) := by
  obtain ⟨h1, h2, h3, h4, h5, h6, h7, h8⟩ := h
  have a1 := kfit_n (a := 1) (b := 12) (by decide) (by decide) h1 (Int32.not_lt.mp h2)
  have a2 := kfit_n (a := 0) (b := 8) (by decide) (by decide) (by rw [nI_0]; exact h3) h4
  have a3 := kfit_n (a := 0) (b := 15) (by decide) (by decide) (by rw [nI_0]; exact h5) (Int32.not_lt.mp h6)
  have a4 := kfit_n (a := 0) (b := 15) (by decide) (by decide) (by rw [nI_0]; exact h7) h8
  exact ⟨⟨a1.2.1, a1.2.2, a3.2.2, a4.2.2, a2.2.2⟩, a1.1, a3.1, a4.1, a2.1⟩
def kSt (P : Nat → kIns) (n : Nat) (u : kU) : Prop := kIn P n u ∧ kTimes P n u
def kIx (x : Int32) (n : Nat) : Prop := ∃ k, k < n ∧ x = nI k
theorem kIx_of {x : Int32} {n : Nat} (hn : n < 2 ^ 31) (h1 : ¬ x < 0) (h2 : x < nI n) : kIx x n := by
  obtain ⟨j, hj, rfl⟩ := nI_of h1
  exact ⟨j, (nI_ltI hj hn).mp h2, rfl⟩
theorem kIx_le {x : Int32} {n : Nat} (hn : n + 1 < 2 ^ 31) (h1 : ¬ x < 0) (h2 : x ≤ nI n) : kIx x (n + 1) := by
  obtain ⟨j, hj, rfl⟩ := nI_of h1
  exact ⟨j, Nat.lt_succ_of_le ((nI_leI hj (by omega)).mp h2), rfl⟩
theorem kIx_neg {x : Int32} {n : Nat} (hn : n < 2 ^ 31) (h : x < 0) : ¬ kIx x n := fun ⟨k, hk, e⟩ => by
  subst e
  exact nI_pos (by omega) h
theorem kIx_ge {x : Int32} {n : Nat} (hn : n < 2 ^ 31) (h : ¬ x < nI n) : ¬ kIx x n := fun ⟨k, hk, e⟩ => by
  subst e
  exact h (nI_lt hk hn)
theorem kIx_gt {x : Int32} {n : Nat} (hn : n + 1 < 2 ^ 31) (h : ¬ x ≤ nI n) : ¬ kIx x (n + 1) := fun ⟨k, hk, e⟩ => by
  subst e
  exact h (nI_le (by omega) (by omega))
def mt_upd (P : Nat → kIns) (k : Nat) (i : kIns) : Nat → kIns := fun j => if j = k then i else P j
theorem mt_upd_s {P : Nat → kIns} {k : Nat} {i : kIns} : mt_upd P k i k = i := if_pos rfl
theorem mt_upd_n {P : Nat → kIns} {k j : Nat} {i : kIns} (h : j ≠ k) : mt_upd P k i j = P j := if_neg h
/-- the seven numbers of k written -/
def kput (u : kU) (k : Nat) (vt vg vr vl : Int32) (ld : Bool) (vw : Int32) (wr : Bool) : kU := kset (kset (kset (kset (kset (kset (kset u 1 k vg) 2 k vr) 3 k vl) 0 k vt) 4 k (kb ld)) 5 k vw) 6 k (kb wr)
theorem kput_at {u : kU} {k : Nat} {vt vg vr vl : Int32} {ld : Bool} {vw : Int32} {wr : Bool} : kput u k vt vg vr vl ld vw wr 0 k = vt ∧ kput u k vt vg vr vl ld vw wr 1 k = vg ∧ kput u k vt vg vr vl ld vw wr 2 k = vr ∧ kput u k vt vg vr vl ld vw wr 3 k = vl ∧ kput u k vt vg vr vl ld vw wr 4 k = kb ld ∧ kput u k vt vg vr vl ld vw wr 5 k = vw ∧ kput u k vt vg vr vl ld vw wr 6 k = kb wr := by
  unfold kput kset
  simp [va_up, upd]
theorem kput_off {u : kU} {k : Nat} {vt vg vr vl : Int32} {ld : Bool} {vw : Int32} {wr : Bool} {j a : Nat} (h : a ≠ k) : kput u k vt vg vr vl ld vw wr j a = u j a := by
  unfold kput
  simp only [kset_off h]
theorem kput_hi {u : kU} {k : Nat} {vt vg vr vl : Int32} {ld : Bool} {vw : Int32} {wr : Bool} {j : Nat} (h : 7 ≤ j) : kput u k vt vg vr vl ld vw wr j = u j := by
  unfold kput
  rw [kset_ne (by omega), kset_ne (by omega), kset_ne (by omega), kset_ne (by omega), kset_ne (by omega), kset_ne (by omega), kset_ne (by omega)]
theorem kIn_put {P : Nat → kIns} {n m k : Nat} {u : kU} {vt vg vr vl : Int32} {ld : Bool} {vw : Int32} {wr : Bool} (hf : kFit vt vg vl vw) (hm : m ≤ 200) (hz : u 15 0 = nI m) (h : ∀ i, i < m → i ≠ k → mt_ok (P i) ∧ u 0 i = nI (mt_t (P i)) ∧ u 1 i = nI (mt_g (P i)) ∧ u 2 i = mt_r (P i) ∧ u 3 i = nI (mt_l (P i)) ∧ u 4 i = kb (mt_ld (P i)) ∧ u 5 i = nI (mt_w (P i)) ∧ u 6 i = kb (mt_wr (P i))) : kIn (mt_upd P k (kmk vt vg vr vl ld vw wr)) m (kput u k vt vg vr vl ld vw wr) := by
  refine ⟨by rw [kput_hi (by decide)]; exact hz, hm, fun i hi => ?_⟩
  by_cases e : i = k
  · subst e
    obtain ⟨a1, a2, a3, a4, a5⟩ := kFit_mk hf vr ld wr
    obtain ⟨b0, b1, b2, b3, b4, b5, b6⟩ := kput_at (u := u) (k := i) (vt := vt) (vg := vg) (vr := vr) (vl := vl) (ld := ld) (vw := vw) (wr := wr)
    rw [mt_upd_s]
    exact ⟨a1, b0.trans a2, b1.trans a3, b2, b3.trans a4, b4, b5.trans a5, b6⟩
  · rw [mt_upd_n e]
    simp only [kput_off e]
    exact h i hi e
theorem kTimes_put {P : Nat → kIns} {k : Nat} {u : kU} {i : kIns} {vt vg vr vl : Int32} {ld : Bool} {vw : Int32} {wr : Bool} (h : kTimes P k u) : kTimes (mt_upd P k i) k (kput u k vt vg vr vl ld vw wr) := fun a ha => by
  have e : ∀ b, b ≤ a → mt_upd P k i b = P b := fun b hb => mt_upd_n (by omega)
  have e1 := mt_tm_congr (P := mt_upd P k i) (P' := P) e
  have h1 := h a ha
  refine kRow_of (u := u) (fun j _ _ => kput_off (by omega)) ?_
  unfold kRow mt_xe mt_me at *
  rw [e1, e a (Nat.le_refl _)]
  exact h1
def mt_when (P : Nat → kIns) (k j : Nat) : Nat := match j with
  | 0 => (mt_tm P k).1
  | 1 => (mt_tm P k).2.1
  | 2 => (mt_tm P k).2.2.1
  | 3 => (mt_tm P k).2.2.2.1
  | 4 => (mt_tm P k).2.2.2.2
  | 5 => mt_xe P (mt_tm P) k
  | _ => mt_me P (mt_tm P) k
theorem kRow_when {P : Nat → kIns} {k j : Nat} {u : kU} (h : kRow P k u) (hj : j < 7) : u (8 + j) k = nI (mt_when P k j) := by
  obtain ⟨h0, h1, h2, h3, h4, h5, h6⟩ := h
  rcases (show j = 0 ∨ j = 1 ∨ j = 2 ∨ j = 3 ∨ j = 4 ∨ j = 5 ∨ j = 6 by omega) with rfl | rfl | rfl | rfl | rfl | rfl | rfl <;> assumption
theorem mt_when_le {P : Nat → kIns} {k : Nat} (h : ∀ j, j ≤ k → mt_ok (P j)) (j : Nat) : mt_when P k j ≤ 24 * k + 24 := by
  obtain ⟨h1, h2, h3, h4, h5, h6, h7⟩ := mt_bound h
  have hok := h k (Nat.le_refl _)
  unfold mt_ok at hok
  unfold mt_when mt_xe mt_me
  split <;> omega
def mt_from (P : Nat → kIns) (k st : Nat) : Nat := if st < 5 then mt_when P k st else mt_when P k 4 + 1
def mt_hit (P : Nat → kIns) (st : Nat) (cy : Int32) (k : Nat) : Bool := decide (nI (mt_from P k st) ≤ cy ∧ cy < nI (mt_from P k (st + 1)))
def mt_scan (p : Nat → Bool) : Nat → Nat → Int32
  | 0, _ => -1
  | d + 1, i => if p i = true then nI i else mt_scan p d (i + 1)
def mt_lw (P : Nat → kIns) (n : Nat) : Nat := mt_pv n (fun j => (mt_tm P j).2.2.2.2)
def mt_cw (P : Nat → kIns) : Nat → Nat
  | 0 => 0
  | n + 1 => mt_cw P n + (if mt_wr (P n) = true then 1 else 0)
theorem mt_cw_le (P : Nat → kIns) : ∀ n, mt_cw P n ≤ n
  | 0 => Nat.le_refl _
  | n + 1 => by
    have := mt_cw_le P n
    unfold mt_cw
    split <;> omega
theorem mt_W_ge (P : Nat → kIns) : ∀ i, i + 1 ≤ (mt_tm P i).2.2.2.2
  | 0 => by
    rw [mt_tm_eq P 0]
    show 1 ≤ mt_sM P (mt_tm P) 0 + mt_w (P 0) + 1
    omega
  | i + 1 => by
    have h1 := mt_W_ge P i
    have h2 := mt_W_succ (P := P) (i := i)
    omega
theorem mt_lw_ge (P : Nat → kIns) (n : Nat) : n ≤ mt_lw P n := by
  unfold mt_lw mt_pv
  by_cases e : n = 0
  · rw [e]; exact Nat.zero_le _
  · rw [if_neg e]
    have := mt_W_ge P (n - 1)
    show n ≤ (mt_tm P (n - 1)).2.2.2.2
    omega
theorem kSt_cut {P : Nat → kIns} {n k : Nat} {u : kU} (h : kSt P n u) (hk : k ≤ n) : kSt P k (knum u 15 (nI k)) := by
  have h0 := h.1.2.1
  exact ⟨⟨rfl, by omega, fun i hi => h.1.2.2 i (by omega)⟩, fun i hi => h.2 i (by omega)⟩
def kReg (x : Int32) : Prop := ∃ r, 1 ≤ r ∧ r ≤ 15 ∧ x = nI r
theorem kReg_of {x : Int32} (h1 : ¬ x < nI 1) (h2 : x ≤ nI 15) : kReg x := by
  obtain ⟨a1, a2, a3⟩ := kfit_n (a := 1) (b := 15) (by decide) (by decide) h1 h2
  exact ⟨_, a2, a3, a1⟩
theorem kReg_lt {x : Int32} (h : x < nI 1) : ¬ kReg x := fun ⟨r, h1, h2, e⟩ => by
  subst e
  have := (nI_ltI (by omega) (by decide)).mp h
  omega
theorem kReg_gt {x : Int32} (h : ¬ x ≤ nI 15) : ¬ kReg x := fun ⟨r, h1, h2, e⟩ => by
  subst e
  exact h (nI_le h2 (by decide))
theorem kdec (d : Nat) : nI d + Int32.ofInt (-1) = nI d - nI 1 := by
  rw [Int32.sub_eq_add_neg]
  rfl
theorem kfrom_lt {P : Nat → kIns} {k st : Nat} (h : st < 5) : mt_from P k st = mt_when P k st := if_pos h
theorem kfrom_5 (P : Nat → kIns) (k : Nat) : nI (mt_from P k (4 + 1)) - nI 1 = nI (mt_when P k 4) := by
  rw [show mt_from P k (4 + 1) = mt_when P k 4 + 1 from if_neg (by decide)]
  exact pk_sub (by omega)
theorem kfrom_le {P : Nat → kIns} {k : Nat} (h : ∀ j, j ≤ k → mt_ok (P j)) (st : Nat) : mt_from P k st ≤ 24 * k + 25 := by
  have h1 := mt_when_le h st
  have h2 := mt_when_le h 4
  unfold mt_from
  split <;> omega
theorem kcyc {B : Nat} {cy : Int32} (hB : B < 2 ^ 30) : nI B - nI 1 < cy ↔ ¬ cy < nI B := by
  rw [Int32.lt_iff_toInt_lt, Int32.lt_iff_toInt_lt, pk_sub_toInt hB (by decide), nI_toInt (by omega)]
  omega
theorem mt_cw_f {P : Nat → kIns} {i : Nat} (h : mt_wr (P i) = false) : mt_cw P (i + 1) = mt_cw P i := by
  show mt_cw P i + (if mt_wr (P i) = true then 1 else 0) = _
  rw [if_neg (by rw [h]; decide)]
  rfl
theorem mt_cw_t {P : Nat → kIns} {i : Nat} (h : mt_wr (P i) = true) : mt_cw P (i + 1) = mt_cw P i + 1 := by
  show mt_cw P i + (if mt_wr (P i) = true then 1 else 0) = _
  rw [if_pos h]
theorem mt_lw_le {P : Nat → kIns} {n : Nat} (h : ∀ j, j < n → mt_ok (P j)) : mt_lw P n ≤ 24 * n := (mt_pv_le h).2.2
def mt_cnt (P : Nat → kIns) (n j : Nat) : Nat := match j with
  | 0 => n
  | 1 => mt_lw P n
  | 2 => mt_lw P n - n
  | _ => mt_cw P n
theorem ksw_out {x : Int32} {n : Nat} (hn : n + 1 < 2 ^ 31) (h : ¬ kIx x (n + 1)) : x.toInt < 0 ∨ (n : Int) < x.toInt := by
  by_cases h0 : x < 0
  · left
    rw [Int32.lt_iff_toInt_lt] at h0
    exact h0
  · right
    obtain ⟨j, hj, rfl⟩ := nI_of h0
    rw [nI_toInt hj]
    have : ¬ j < n + 1 := fun q => h ⟨j, q, rfl⟩
    omega
