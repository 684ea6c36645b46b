/-! an object's state, and what each call answers and does to it -/
/-- password and its size, salt and its size, turns of each part, bytes wanted (0: no key started), turns done -/
abbrev kA : Type := (Nat → Int32) × Nat × (Nat → Int32) × Nat × Nat × Nat × Nat
/-- turns of all parts -/
def kt_all (c w : Nat) : Nat := (w + 31) / 32 * c
def kA_ok (a : kA) : Prop := match a with
  | (p, np, s, ns, c, w, d) => np ≤ 150 ∧ ns ≤ 80 ∧ (∀ j, j < np → kr (p j)) ∧ (∀ j, j < ns → kr (s j)) ∧ w ≤ 100 ∧ c ≤ 1000 ∧ (w = 0 → c = 0 ∧ d = 0) ∧ (0 < w → 0 < c) ∧ d ≤ kt_all c w
def ka_password (b : Int32) (a : kA) : Int32 × kA := match a with
  | (p, np, s, ns, c, w, d) => if ¬ b < 0 ∧ ¬ 255 < b ∧ w = 0 ∧ np < 150 then (1, (upd p np b, np + 1, s, ns, c, w, d)) else (0, (p, np, s, ns, c, w, d))
def ka_four (x : Int32) (a : kA) : Int32 × kA := match a with
  | (p, np, s, ns, c, w, d) => if w = 0 ∧ np + 4 ≤ 150 then (1, (km_put p np x, np + 4, s, ns, c, w, d)) else (0, (p, np, s, ns, c, w, d))
def ka_salt (b : Int32) (a : kA) : Int32 × kA := match a with
  | (p, np, s, ns, c, w, d) => if ¬ b < 0 ∧ ¬ 255 < b ∧ w = 0 ∧ ns < 80 then (1, (p, np, upd s ns b, ns + 1, c, w, d)) else (0, (p, np, s, ns, c, w, d))
def ka_start (t b : Int32) (a : kA) : Int32 × kA := match a with
  | (p, np, s, ns, c, w, d) => if w = 0 ∧ ¬ t < 1 ∧ ¬ 1000 < t ∧ ¬ b < 1 ∧ ¬ 100 < b then (nI (kt_all t.toNatClampNeg b.toNatClampNeg), (p, np, s, ns, t.toNatClampNeg, b.toNatClampNeg, 0)) else (-1, (p, np, s, ns, c, w, d))
def ka_step (a : kA) : Int32 × kA := match a with
  | (p, np, s, ns, c, w, d) => if d < kt_all c w then (nI (kt_all c w - (d + 1)), (p, np, s, ns, c, w, d + 1)) else (-1, (p, np, s, ns, c, w, d))
def ka_run (most : Int32) (a : kA) : Int32 × kA := match a with
  | (p, np, s, ns, c, w, d) => if 0 < w ∧ ¬ most < 0 then (nI (min most.toNatClampNeg (kt_all c w - d)), (p, np, s, ns, c, w, d + min most.toNatClampNeg (kt_all c w - d))) else (-1, (p, np, s, ns, c, w, d))
def ka_left (a : kA) : Int32 × kA := match a with
  | (p, np, s, ns, c, w, d) => (if 0 < w then nI (kt_all c w - d) else -1, (p, np, s, ns, c, w, d))
def ka_key (i : Int32) (a : kA) : Int32 × kA := match a with
  | (p, np, s, ns, c, w, d) => (if ¬ i < 0 ∧ i.toNatClampNeg < w ∧ (i.toNatClampNeg / 32 + 1) * c ≤ d then km_K p np s ns c d i.toNatClampNeg else -1, (p, np, s, ns, c, w, d))
def ka_reset (a : kA) : kA := match a with
  | (p, _, s, _, _, _, _) => (p, 0, s, 0, 0, 0, 0)
def ka_many (what : Int32) (a : kA) : Int32 × kA := match a with
  | (p, np, s, ns, c, w, d) => (if what = 0 then nI np else if what = 1 then nI ns else if what = 2 then nI w else -1, (p, np, s, ns, c, w, d))
def ka_sum (i : Int32) (a : kA) : Int32 × kA := match a with
  | (p, np, s, ns, c, w, d) => (if ¬ i < 0 ∧ i.toNatClampNeg < 32 then km_s p np i.toNatClampNeg else -1, (p, np, s, ns, c, w, d))
def ka_mark (i : Int32) (a : kA) : Int32 × kA := match a with
  | (p, np, s, ns, c, w, d) => (if ¬ i < 0 ∧ i.toNatClampNeg < 32 then km_mk p np s ns i.toNatClampNeg else -1, (p, np, s, ns, c, w, d))
def ka_word (which i : Int32) : Int32 := if which = 0 ∧ ¬ i < 0 ∧ i.toNatClampNeg < 64 then kK i.toNatClampNeg else if which = 1 ∧ ¬ i < 0 ∧ i.toNatClampNeg < 8 then kH i.toNatClampNeg else 0
theorem kt_all_0 (c : Nat) : kt_all c 0 = 0 := by unfold kt_all; simp
theorem kt_all_le {c w : Nat} (hc : c ≤ 1000) (hw : w ≤ 100) : kt_all c w ≤ 4000 := by
  unfold kt_all
  exact Nat.le_trans (Nat.mul_le_mul (show (w + 31) / 32 ≤ 4 by omega) hc) (by omega)
theorem kA_password {b : Int32} {a : kA} (h : kA_ok a) : kA_ok (ka_password b a).2 := by
  obtain ⟨p, np, s, ns, c, w, d⟩ := a
  obtain ⟨h1, h2, h3, h4, h5⟩ := h
  unfold ka_password
  dsimp only
  split
  · rename_i hc
    refine ⟨by omega, h2, fun j hj => ?_, h4, h5⟩
    by_cases e : j = np
    · subst e; rw [pk_us]; exact kr_small hc.1 hc.2.1
    · rw [pk_un e]; exact h3 j (by omega)
  · exact ⟨h1, h2, h3, h4, h5⟩
theorem kA_four {x : Int32} {a : kA} (h : kA_ok a) : kA_ok (ka_four x a).2 := by
  obtain ⟨p, np, s, ns, c, w, d⟩ := a
  obtain ⟨h1, h2, h3, h4, h5⟩ := h
  unfold ka_four
  dsimp only
  split
  · rename_i hc
    refine ⟨by omega, h2, fun j hj => ?_, h4, h5⟩
    unfold km_put
    split
    · exact km_by_kr _ _
    · exact h3 j (by omega)
  · exact ⟨h1, h2, h3, h4, h5⟩
theorem kA_salt {b : Int32} {a : kA} (h : kA_ok a) : kA_ok (ka_salt b a).2 := by
  obtain ⟨p, np, s, ns, c, w, d⟩ := a
  obtain ⟨h1, h2, h3, h4, h5⟩ := h
  unfold ka_salt
  dsimp only
  split
  · rename_i hc
    refine ⟨h1, by omega, h3, fun j hj => ?_, h5⟩
    by_cases e : j = ns
    · subst e; rw [pk_us]; exact kr_small hc.1 hc.2.1
    · rw [pk_un e]; exact h4 j (by omega)
  · exact ⟨h1, h2, h3, h4, h5⟩
theorem kA_start {t b : Int32} {a : kA} (h : kA_ok a) : kA_ok (ka_start t b a).2 := by
  obtain ⟨p, np, s, ns, c, w, d⟩ := a
  obtain ⟨h1, h2, h3, h4, h5⟩ := h
  unfold ka_start
  dsimp only
  split
  · rename_i hc
    obtain ⟨-, c1, c2, c3, c4⟩ := hc
    have lo : ∀ z : Int32, ¬ z < 1 → ¬ z < 0 := by
      intro z hz h0
      rw [Int32.lt_iff_toInt_lt] at hz h0
      have e1 : (1 : Int32).toInt = 1 := by decide
      have e0 : (0 : Int32).toInt = 0 := by decide
      omega
    obtain ⟨t', ht, rfl⟩ := nI_of2 (M := 1000) (n := 1000) (by decide) (lo t c1) (Int32.not_lt.mp c2)
    obtain ⟨b', hb, rfl⟩ := nI_of2 (M := 100) (n := 100) (by decide) (lo b c3) (Int32.not_lt.mp c4)
    rw [nI_clamp (by omega), nI_clamp (by omega)]
    have p1 : ¬ t' < 1 := fun z => c1 ((nI_ltI (b := 1) (by omega) (by omega)).mpr z)
    have p2 : ¬ b' < 1 := fun z => c3 ((nI_ltI (b := 1) (by omega) (by omega)).mpr z)
    exact ⟨h1, h2, h3, h4, hb, ht, fun z => by omega, fun _ => by omega, Nat.zero_le _⟩
  · exact ⟨h1, h2, h3, h4, h5⟩
theorem kA_step {a : kA} (h : kA_ok a) : kA_ok (ka_step a).2 := by
  obtain ⟨p, np, s, ns, c, w, d⟩ := a
  obtain ⟨h1, h2, h3, h4, h5, h6, h7, h8, h9⟩ := h
  unfold ka_step
  dsimp only
  split
  · rename_i hc
    refine ⟨h1, h2, h3, h4, h5, h6, fun z => ?_, h8, hc⟩
    subst z
    rw [kt_all_0] at hc
    omega
  · exact ⟨h1, h2, h3, h4, h5, h6, h7, h8, h9⟩
theorem kA_run {most : Int32} {a : kA} (h : kA_ok a) : kA_ok (ka_run most a).2 := by
  obtain ⟨p, np, s, ns, c, w, d⟩ := a
  obtain ⟨h1, h2, h3, h4, h5, h6, h7, h8, h9⟩ := h
  unfold ka_run
  dsimp only
  split
  · rename_i hc
    exact ⟨h1, h2, h3, h4, h5, h6, fun z => by omega, h8, by omega⟩
  · exact ⟨h1, h2, h3, h4, h5, h6, h7, h8, h9⟩
theorem kA_reset {a : kA} (h : kA_ok a) : kA_ok (ka_reset a) := by
  obtain ⟨p, np, s, ns, c, w, d⟩ := a
  exact ⟨Nat.zero_le _, Nat.zero_le _, fun j hj => by omega, fun j hj => by omega, Nat.zero_le _, Nat.zero_le _, fun _ => ⟨rfl, rfl⟩, fun z => by omega, Nat.zero_le _⟩
theorem kA_new : kA_ok (fun _ => 0, 0, fun _ => 0, 0, 0, 0, 0) :=
  ⟨Nat.zero_le _, Nat.zero_le _, fun j hj => by omega, fun j hj => by omega, Nat.zero_le _, Nat.zero_le _, fun _ => ⟨rfl, rfl⟩, fun z => by omega, Nat.zero_le _⟩
/-- what the class's rows hold: F 0 password, F 1 salt, F 2 key, F 3 last mark, F 12 and F 13 the states behind the key's block -/
def kC (a : kA) (F : Nat → Nat → Int32) : Prop := match a with
  | (p, np, s, ns, c, w, d) => (∀ j, j < np → F 0 j = p j) ∧ (∀ j, j < ns → F 1 j = s j) ∧
    (0 < w → (∀ j, j < 128 → F 2 j = km_K p np s ns c d j) ∧ (0 < d → ∀ j, j < 32 → F 3 j = km_U p np s ns c d j) ∧ (∀ j, j < 8 → F 12 j = km_h (km_kx p np 54) 1 j) ∧ (∀ j, j < 8 → F 13 j = km_h (km_kx p np 92) 1 j))
/-- what the reference's rows hold: secret, grain, last, parts -/
def kM (a : kA) (fs fg fl fp : Nat → Int32) : Prop := match a with
  | (p, np, s, ns, c, w, d) => (∀ j, j < np → fs j &&& 255 = p j) ∧ (∀ j, j < ns → fg j &&& 255 = s j) ∧
    (0 < w → (∀ j, j < 128 → fp j &&& 255 = km_K p np s ns c d j) ∧ (0 < d → ∀ j, j < 32 → fl j &&& 255 = km_U p np s ns c d j))
