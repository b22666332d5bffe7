/-! probes and tables of both sides -/
def rW (n b : Nat) (up con dwn ctd : Nat → Int32) : Prop := z01 up ∧ (∀ k, k < n → dwn (8 * b + k) = f_not (up k)) ∧ ∀ k, k < n → ctd (8 * b + k) = con k
def rT (fN sN : Nat → Nat) (m n : Nat) (up own : Nat → Int32) : Prop := ∃ o x, own = (f_tab fN sN m n up o x).1
theorem z01_up {f : Nat → Int32} {j : Nat} {v : Int32} (h : z01 f) (hv : v = 0 ∨ v = 1) : z01 (upd f j v) := fun e => by
  by_cases z : e = j
  · subst z; rw [pk_us]; exact hv
  · rw [pk_un z]; exact h e
theorem not_0 {x : Int32} : (x = 0 ↔ ¬ f_not x = 0) := by
  unfold f_not
  by_cases e : x = 0
  · rw [if_pos e]; exact ⟨fun _ => by decide, fun _ => e⟩
  · rw [if_neg e]; exact ⟨fun h => absurd h e, fun h => absurd rfl h⟩
theorem meets01 (on c : Int32) : f_meets on c = 0 ∨ f_meets on c = 1 := by
  unfold f_meets
  split
  · exact Or.inl rfl
  · split
    · exact Or.inr rfl
    · exact Or.inl rfl
theorem meets_eq {b k : Nat} {on c : Int32} {off cutm : Nat → Int32} (ho : off k = f_not on) (hc : cutm (8 * b + k) = c) : g_meets off cutm b k = f_meets on c := by
  unfold g_meets f_meets
  rw [ho, hc]
  by_cases e : on = 0
  · rw [if_pos e, if_neg (not_0.mp e)]
  · rw [if_neg e, if_pos (by unfold f_not; rw [if_neg e])]
theorem ask_step {n b j : Nat} (hj : j < n) (hn : n ≤ 8) {up con dwn ctd : Nat → Int32} (h : rW n b up con dwn ctd) {a : Int32} (ha : a = 0 ∨ a = 1) :
    rW n b (f_ou up con j a) (f_on up con j a) (g_ad ctd dwn (8 * b + j) a) (g_at ctd dwn (8 * b + j) a) ∧ f_or up con j a = g_ar ctd dwn (8 * b + j) a ∧ oE b dwn (g_ad ctd dwn (8 * b + j) a) ∧ oE b ctd (g_at ctd dwn (8 * b + j) a) := by
  obtain ⟨h1, h2, h3⟩ := h
  have E : g_ac ctd dwn (8 * b + j) a = f_oc up con j a := by
    unfold g_ac f_oc
    rw [h2 j hj, h3 j hj]
    rcases h1 j with u | u <;> rcases ha with w | w <;> rw [u, w] <;> rfl
  unfold f_ou f_on f_or g_ad g_at g_ar
  rw [E]
  by_cases c : 3 ≤ f_oc up con j a
  · simp only [if_pos c]
    have na : ¬ a = up j := fun z => by
      unfold f_oc at c
      rw [if_pos z] at c
      exact absurd c (by decide)
    refine ⟨⟨z01_up h1 ha, fun k hk => ?_, fun k hk => ?_⟩, trivial, oE.up (by omega), fun i hi => ?_⟩
    · by_cases z : k = j
      · subst z
        rw [pk_us, pk_us, h2 k hk]
        rcases h1 k with u | u <;> rcases ha with w | w <;> rw [u, w] at na <;> rw [u, w]
        · exact absurd rfl na
        · rfl
        · rfl
        · exact absurd rfl na
      · rw [pk_un z, pk_un (by omega)]; exact h2 k hk
    · by_cases z : k = j
      · subst z; rw [pk_us, pk_us]
      · rw [pk_un z, pk_un z, pk_un (by omega), pk_un (by omega)]; exact h3 k hk
    · rw [pk_un (by omega), pk_un (by omega)]
  · simp only [if_neg c]
    exact ⟨⟨h1, h2, fun k hk => sec_upd (N := n) h3 k hk⟩, trivial, oE.rf, oE.up (by omega)⟩
theorem prs_asks {n b : Nat} (hn : n ≤ 8) {onf cut off cutm : Nat → Int32} (ho : ∀ k, k < n → off k = f_not (onf k)) (hc : ∀ k, k < n → cutm (8 * b + k) = cut k) : ∀ (k j : Nat) (x : f_P) (y : g_A), j + k = n → rW n b x.1 x.2.1 y.2.1 y.1 → x.2.2 = y.2.2 →
    rW n b (f_prs onf cut k j x).1 (f_prs onf cut k j x).2.1 (g_asks off cutm b k j y).2.1 (g_asks off cutm b k j y).1 ∧ (f_prs onf cut k j x).2.2 = (g_asks off cutm b k j y).2.2 ∧ oE b y.2.1 (g_asks off cutm b k j y).2.1 ∧ oE b y.1 (g_asks off cutm b k j y).1
  | 0, j, x, y, _, h, hx => ⟨h, hx, oE.rf, oE.rf⟩
  | k + 1, j, x, y, hj, h, hx => by
    have hjn : j < n := by omega
    have e := meets_eq (ho j hjn) (hc j hjn)
    obtain ⟨a1, a2, a3, a4⟩ := ask_step hjn hn h (meets01 (onf j) (cut j))
    simp only [f_prs, g_asks, e]
    obtain ⟨b1, b2, b3, b4⟩ := prs_asks hn ho hc k (j + 1) (f_ou x.1 x.2.1 j (f_meets (onf j) (cut j)), f_on x.1 x.2.1 j (f_meets (onf j) (cut j)), if f_or x.1 x.2.1 j (f_meets (onf j) (cut j)) = 0 then x.2.2 else x.2.2 + 1) (g_at y.1 y.2.1 (8 * b + j) (f_meets (onf j) (cut j)), g_ad y.1 y.2.1 (8 * b + j) (f_meets (onf j) (cut j)), if g_ar y.1 y.2.1 (8 * b + j) (f_meets (onf j) (cut j)) = 0 then y.2.2 else y.2.2 + 1) (by omega) a1 (by dsimp only; rw [a2, hx])
    exact ⟨b1, b2, fun i hi => (b3 i hi).trans (a3 i hi), fun i hi => (b4 i hi).trans (a4 i hi)⟩
theorem prs_mono (onf cut : Nat → Int32) : ∀ (k j : Nat) (x : f_P), x.2.2 ≤ (f_prs onf cut k j x).2.2
  | 0, _, _ => Nat.le_refl _
  | k + 1, j, x => by
    simp only [f_prs]
    refine Nat.le_trans ?_ (prs_mono onf cut k (j + 1) _)
    dsimp only
    split <;> omega
/-- no change: the watch holds what it held -/
theorem prs_0 (onf cut : Nat → Int32) : ∀ (k j : Nat) (x : f_P), (f_prs onf cut k j x).2.2 = x.2.2 → (f_prs onf cut k j x).1 = x.1
  | 0, _, _, _ => rfl
  | k + 1, j, x, h => by
    simp only [f_prs] at h ⊢
    have mo := prs_mono onf cut k (j + 1) (f_ou x.1 x.2.1 j (f_meets (onf j) (cut j)), f_on x.1 x.2.1 j (f_meets (onf j) (cut j)), if f_or x.1 x.2.1 j (f_meets (onf j) (cut j)) = 0 then x.2.2 else x.2.2 + 1)
    dsimp only at mo
    by_cases z : f_or x.1 x.2.1 j (f_meets (onf j) (cut j)) = 0
    · have zu : f_ou x.1 x.2.1 j (f_meets (onf j) (cut j)) = x.1 := by
        unfold f_or at z
        unfold f_ou
        by_cases c : 3 ≤ f_oc x.1 x.2.1 j (f_meets (onf j) (cut j))
        · rw [if_pos c] at z; exact absurd z (by decide)
        · rw [if_neg c]
      rw [if_pos z] at h ⊢
      rw [prs_0 onf cut k (j + 1) _ h]
      exact zu
    · rw [if_neg z] at h mo
      omega
theorem prs_z01 (onf cut : Nat → Int32) : ∀ (k j : Nat) (x : f_P), z01 x.1 → z01 (f_prs onf cut k j x).1
  | 0, _, _, h => h
  | k + 1, j, x, h => by
    simp only [f_prs]
    refine prs_z01 onf cut k (j + 1) _ ?_
    dsimp only
    unfold f_ou
    split
    · exact z01_up h (meets01 _ _)
    · exact h
theorem turn_val {fN sN : Nat → Nat} {m n j : Nat} {up : Nat → Int32} {x : f_S} (hj : j < n) (h : ∀ p, x.1 p = -1 ∨ (∃ k, k < n ∧ ¬ up k = 0 ∧ x.1 p = nI k) ∨ m ≤ p) : ∀ p, (f_turn fN sN m up j x).1 p = -1 ∨ (∃ k, k < n ∧ ¬ up k = 0 ∧ (f_turn fN sN m up j x).1 p = nI k) ∨ m ≤ p := fun p => by
  unfold f_turn
  by_cases u : up j = 0
  · rw [if_pos u]; exact h p
  · rw [if_neg u]
    by_cases g : m ≤ x.2.2
    · rw [if_pos g]; exact h p
    · rw [if_neg g]
      dsimp only
      by_cases z : p = f_pl fN sN m j (f_j1 fN sN m j x.1 x.2.1)
      · rw [← z, pk_us]; exact Or.inr (Or.inl ⟨j, hj, u, rfl⟩)
      · rw [pk_un z]; exact h p
theorem inner_val {fN sN : Nat → Nat} {m n : Nat} {up : Nat → Int32} : ∀ (k j : Nat) (x : f_S), j + k ≤ n → (∀ p, x.1 p = -1 ∨ (∃ k, k < n ∧ ¬ up k = 0 ∧ x.1 p = nI k) ∨ m ≤ p) → ∀ p, (f_inner fN sN m up k j x).1 p = -1 ∨ (∃ i, i < n ∧ ¬ up i = 0 ∧ (f_inner fN sN m up k j x).1 p = nI i) ∨ m ≤ p
  | 0, _, _, _, h => h
  | k + 1, j, x, hj, h => inner_val k (j + 1) _ (by omega) (turn_val (by omega) h)
theorem outer_val {fN sN : Nat → Nat} {m n : Nat} {up : Nat → Int32} : ∀ (k : Nat) (x : f_S), (∀ p, x.1 p = -1 ∨ (∃ k, k < n ∧ ¬ up k = 0 ∧ x.1 p = nI k) ∨ m ≤ p) → ∀ p, (f_outer fN sN m n up k x).1 p = -1 ∨ (∃ i, i < n ∧ ¬ up i = 0 ∧ (f_outer fN sN m n up k x).1 p = nI i) ∨ m ≤ p
  | 0, _, h => h
  | k + 1, x, h => outer_val k _ (inner_val n 0 x (by omega) h)
theorem tab_val (fN sN : Nat → Nat) (m n : Nat) (up o x : Nat → Int32) : ∀ p, p < m → (f_tab fN sN m n up o x).1 p = -1 ∨ ∃ k, k < n ∧ ¬ up k = 0 ∧ (f_tab fN sN m n up o x).1 p = nI k := fun p hp => by
  have A := outer_val (fN := fN) (sN := sN) (m := m) (n := n) (up := up) m (f_fill m 0 (-1) o, f_fill n 0 0 x, 0) (fun p => by
    by_cases z : p < m
    · refine Or.inl ?_
      show f_fill m 0 (-1) o p = -1
      rw [f_fill_at, if_pos (by omega)]
    · exact Or.inr (Or.inr (by omega))) p
  rcases A with A | A | A
  · exact Or.inl A
  · exact Or.inr A
  · omega
/-- a balancer's table is what the reference deals -/
theorem tab_rel {fN sN : Nat → Nat} {m n b : Nat} {up own con dwn ctd : Nat → Int32} (hm : 0 < m ∧ m ≤ 101) (hn : 0 < n ∧ n ≤ 8) (hs : f_sur fN sN m n) (h : rW n b up con dwn ctd) (ht : rT fN sN m n up own) (dea : Nat → Int32) :
    (∀ p, p < m → own p = g_deal fN sN m n (g_sh dwn b) dea p) ∧ (g_ups (g_sh dwn b) n = 0 → (∀ p, p < m → own p = -1) ∧ ∀ k, k < n → up k = 0) ∧ (¬ g_ups (g_sh dwn b) n = 0 → ∀ p, p < m → ∃ k, k < n ∧ ¬ up k = 0 ∧ own p = nI k) := by
  obtain ⟨o, x, rfl⟩ := ht
  have hu : ∀ k, k < n → (up k = 0 ↔ ¬ g_sh dwn b k = 0) := fun k hk => by
    show up k = 0 ↔ ¬ dwn (8 * b + k) = 0
    rw [h.2.1 k hk]
    exact not_0
  obtain ⟨a1, a2, a3⟩ := tab_deal hm hn hs hu o x dea
  refine ⟨a1, fun z => ⟨a2 z, fun k hk => ?_⟩, fun z p hp => (tab_val fN sN m n up o x p hp).resolve_left (a3 z p hp)⟩
  have := (f_count_0 n 0 0 z).2 k (Nat.zero_le _) (by omega)
  exact (hu k hk).mpr (by simpa using this)
theorem copy_at (f : Nat → Int32) : ∀ (k j : Nat) (g : Nat → Int32) (i : Nat), g_copy k j f g i = if j ≤ i ∧ i < j + k then f i else g i
  | 0, j, g, i => by rw [if_neg (by omega)]; rfl
  | k + 1, j, g, i => by
    simp only [g_copy]
    rw [copy_at f k (j + 1)]
    by_cases z : i = j
    · subst z; rw [if_neg (by omega), pk_us, if_pos (by omega)]
    · rw [pk_un z]
      by_cases c : j + 1 ≤ i ∧ i < j + 1 + k
      · rw [if_pos c, if_pos (by omega)]
      · rw [if_neg c, if_neg (by omega)]
theorem mov_eq {m : Nat} {o1 o2 d1 d2 bef frm : Nat → Int32} (hm : m ≤ 101) (h1 : ∀ p, p < m → o1 p = d1 p) (h2 : ∀ p, p < m → o2 p = d2 p) : f_count (fun p => !(o2 p == (va_cpy o1 bef 0 0 m) p)) m 0 0 = f_count (fun p => !(d2 p == (g_copy 101 0 d1 frm) p)) m 0 0 := by
  rw [fc0, fc0]
  refine cN_congr m (fun p hp => ?_)
  have e1 : va_cpy o1 bef 0 0 m p = o1 p := by
    unfold va_cpy
    rw [if_pos (by omega)]
    congr 1
    omega
  rw [e1, copy_at, if_pos (by omega), h1 p hp, h2 p hp]
theorem sh_eq {m v : Nat} {o d : Nat → Int32} (h : ∀ p, p < m → o p = d p) : f_count (fun p => o p == nI v) m 0 0 = f_count (fun p => d p == nI v) m 0 0 := by
  rw [fc0, fc0]
  exact cN_congr m (fun p hp => by rw [h p hp])
