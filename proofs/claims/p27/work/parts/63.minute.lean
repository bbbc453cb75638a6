/-! A MINUTE OF A STATION: what stays, what is counted -/
/-- what is wanted of a station in the minute n, where the drive d has had b d turns of it -/
def STN (x : StV) (n c : Int) (b : Nat → Int) : Prop := (x.1 2).toInt = n ∧ (0 ≤ n ∧ n ≤ 100000) ∧ SI x.2.1 ∧ (0 ≤ (x.1 5).toInt ∧ (x.1 5).toInt ≤ c) ∧ ∀ d : Nat, d < 4 → DRV (x.2.2.1 d).1 (x.2.2.2 d) (n + b d)
/-- what the stream of a drive brings in this minute -/
def incS (x : StV) (d : Nat) : Int32 := if x.1 2 - x.1 2 / (x.2.2.1 d).1 8 * (x.2.2.1 d).1 8 = 0 then (x.2.2.1 d).1 9 else 0
def totS (x : StV) : Int32 := tt (x.2.2.1 0).1 + tt (x.2.2.1 1).1 + tt (x.2.2.1 2).1 + tt (x.2.2.1 3).1
def ovS (x : StV) : Int32 := (x.2.2.1 0).1 7 + (x.2.2.1 1).1 7 + (x.2.2.1 2).1 7 + (x.2.2.1 3).1 7
/-- what a turn leaves and changes -/
def TRN (x y : StV) (k e : Nat) : Prop := y.1 2 = x.1 2 ∧ y.2.1 = x.2.1 ∧ (tt (y.2.2.1 k).1 + tt (y.2.2.1 e).1 = tt (x.2.2.1 k).1 + tt (x.2.2.1 e).1 + incS x k) ∧ (∀ d : Nat, (y.2.2.1 d).1 8 = (x.2.2.1 d).1 8 ∧ (y.2.2.1 d).1 9 = (x.2.2.1 d).1 9) ∧ (∀ d : Nat, ¬ d = k → ¬ d = e → y.2.2.1 d = x.2.2.1 d) ∧ (y.2.2.1 e).1 7 = (x.2.2.1 e).1 7 ∧ MON x.1 y.1 x.2.1 (x.2.2.1 k).1 (y.2.2.1 k).1
theorem TRN.inc {x y : StV} {k e : Nat} (T : TRN x y k e) (d : Nat) : incS y d = incS x d := by
  unfold incS
  rw [T.1, (T.2.2.2.1 d).1, (T.2.2.2.1 d).2]
theorem turn_S {x : StV} {n c : Int} {b : Nat → Int} {k e : Nat} (hk4 : k < 4) (he4 : e < 4) (hke : ¬ k = e) (I : STN x n c b) (hbk : b k = 0) (hcc : c ≤ 100000000) : STN (turnO x k e) n (c + 9) (updF b k 1) ∧ TRN x (turnO x k e) k e := by
  obtain ⟨i1, i2, i3, i4, i5⟩ := I
  have Vk := i5 k hk4
  rw [hbk, Int.add_zero] at Vk
  have Ve := i5 e he4
  obtain ⟨E1, E2, E3, E4, E5⟩ := Ve
  obtain ⟨a1, a2, a3, a4, a5, a6, a7, a8⟩ := turn_D (t := x.2.2.1 e) (he := x.2.2.2 e) i1 i2 i3 Vk E1 i4 hcc
  have te : (turnO x k e).2.2.1 e = f_X3_passMinuteOf_tv x.1 x.2.1 (x.2.2.1 k) (x.2.2.2 k) (x.2.2.1 e) (x.2.2.2 e) := tO_t x k e
  have tk : (turnO x k e).2.2.1 k = f_X3_passMinuteOf_v x.1 x.2.1 (x.2.2.1 k) (x.2.2.2 k) (x.2.2.1 e) (x.2.2.2 e) := tO_v x hke
  have pt : ∀ j : Nat, ¬ j = 0 ∧ ¬ j = 1 ∧ ¬ j = 2 → (f_X3_passMinuteOf_tv x.1 x.2.1 (x.2.2.1 k) (x.2.2.2 k) (x.2.2.1 e) (x.2.2.2 e)).1 j = (x.2.2.1 e).1 j := fun j hj => pm_t _ _ _ _ _ _ j hj
  refine ⟨⟨?_, i2, i3, ?_, fun d hd => ?_⟩, ?_, rfl, ?_, fun d => ?_, fun d h1 h2 => tO_o x h1 h2, ?_, ?_⟩
  · rw [tO_g, a3, i1]
  · rw [tO_g]
    exact a4
  · by_cases h1 : d = k
    · subst h1
      rw [tk, tO_f, updF_same]
      exact a1
    · rw [tO_h x h1, updF_oth h1]
      by_cases h2 : d = e
      · subst h2
        rw [te]
        refine ⟨a2, E2, ?_, ?_, E5⟩
        · rw [pt 7 (by decide), pt 6 (by decide)]
          exact E3
        · rw [pt 7 (by decide)]
          exact E4
      · rw [tO_o x h1 h2]
        exact i5 d hd
  · rw [tO_g, a3]
  · rw [tk, te, a5]
    rfl
  · by_cases h1 : d = k
    · subst h1
      rw [tk]
      exact ⟨a6, a7⟩
    · by_cases h2 : d = e
      · subst h2
        rw [te]
        exact ⟨pt 8 (by decide), pt 9 (by decide)⟩
      · rw [tO_o x h1 h2]
        exact ⟨rfl, rfl⟩
  · rw [te]
    exact pt 7 (by decide)
  · rw [tk, tO_g]
    exact a8
theorem nI_ad (a b : Nat) : nI a + nI b = nI (a + b) := nI_add a b
theorem mon_add {x y z : StV} {s : Nat → Int32} {A B : Int32} {o p o' p' : Nat} (hp : p ≤ o) (hp' : p' ≤ o') (h1 : y.1 6 = x.1 6 + nI p) (h2 : y.1 4 = x.1 4 + nI (o - p) * s 1) (h3 : z.1 6 = y.1 6 + nI p') (h4 : z.1 4 = y.1 4 + nI (o' - p') * s 1) : z.1 6 = x.1 6 + nI (p + p') ∧ z.1 4 = x.1 4 + nI (o + o' - (p + p')) * s 1 := by
  refine ⟨?_, ?_⟩
  · rw [h3, h1, Int32.add_assoc, nI_ad]
  · rw [h4, h2, show o + o' - (p + p') = (o - p) + (o' - p') by omega, ← nI_ad]
    grind
theorem tot_4 {A2 A3 B2 B3 C0 C1 D0 D1 E0 E1 E2 E3 J0 J1 J2 J3 : Int32} (t1 : D0 + D1 = E0 + E1 + J0) (t2 : C1 + C0 = D1 + D0 + J1) (t3 : B2 + B3 = E2 + E3 + J2) (t4 : A3 + A2 = B3 + B2 + J3) : C0 + C1 + A2 + A3 = E0 + E1 + E2 + E3 + J0 + J1 + J2 + J3 := by
  grind
theorem ov_4 (a b c d k1 k2 k3 k4 : Int32) : a + k1 + (b + k2) + (c + k3) + (d + k4) = a + b + c + d + (k1 + k2 + k3 + k4) := by
  grind
/-- a minute of a station -/
theorem one_S {x : StV} {n c : Int} (I : STN x n c (fun _ => 0)) (hn : n + 1 ≤ 100000) (hcc : c ≤ 90000000) :
    STN (passOne x) (n + 1) (c + 36) (fun _ => 0) ∧ (passOne x).2.1 = x.2.1 ∧ (passOne x).1 2 = x.1 2 + 1 ∧ totS (passOne x) = totS x + incS x 0 + incS x 1 + incS x 2 + incS x 3 ∧ ∃ o p : Nat, p ≤ o ∧ o ≤ 4 ∧ ovS (passOne x) = ovS x + nI o ∧ (passOne x).1 6 = x.1 6 + nI p ∧ (passOne x).1 4 = x.1 4 + nI (o - p) * x.2.1 1 := by
  obtain ⟨I1, T1⟩ := turn_S (k := 0) (e := 1) (by decide) (by decide) (by decide) I rfl (by omega)
  obtain ⟨I2, T2⟩ := turn_S (k := 1) (e := 0) (by decide) (by decide) (by decide) I1 rfl (by omega)
  obtain ⟨I3, T3⟩ := turn_S (k := 2) (e := 3) (by decide) (by decide) (by decide) I2 rfl (by omega)
  obtain ⟨I4, T4⟩ := turn_S (k := 3) (e := 2) (by decide) (by decide) (by decide) I3 rfl (by omega)
  have v1 := T1.inc
  have v2 := T2.inc
  have v3 := T3.inc
  rw [show turnO (turnO (turnO (turnO x 0 1) 1 0) 2 3) 3 2 = on4 x from rfl] at I4 T4
  rw [show turnO (turnO (turnO x 0 1) 1 0) 2 3 = on3 x from rfl] at T3 T4 v3
  rw [show turnO (turnO x 0 1) 1 0 = on2 x from rfl] at T2 T3 v2 v3
  rw [show turnO x 0 1 = on1 x from rfl] at T1 T2 v1 v2
  obtain ⟨g1, s1, t1, -, r1, w1, o1, p1, hp1, ho1, m1, n1, l1⟩ := T1
  obtain ⟨g2, s2, t2, -, r2, w2, o2, p2, hp2, ho2, m2, n2, l2⟩ := T2
  obtain ⟨g3, s3, t3, -, r3, w3, o3, p3, hp3, ho3, m3, n3, l3⟩ := T3
  obtain ⟨g4, s4, t4, -, r4, w4, o4, p4, hp4, ho4, m4, n4, l4⟩ := T4
  obtain ⟨i1, i2, i3, i4, i5⟩ := I4
  have G2 : (on4 x).1 2 = x.1 2 := by rw [g4, g3, g2, g1]
  have e2 : ((on4 x).1 2 + 1).toInt = n + 1 := by rw [T_add (by rw [T_1]; omega) (by rw [T_1]; omega), T_1, i1]
  have b4 : ∀ d : Nat, d < 4 → updF (updF (updF (updF (fun _ => (0 : Int)) 0 1) 1 1) 2 1) 3 1 d = 1 := all4 rfl rfl rfl rfl
  have gq : ∀ j : Nat, ¬ j = 2 → (passOne x).1 j = (on4 x).1 j := fun j hj => by
    rw [one_g]
    exact if_neg hj
  have dv : ∀ d : Nat, d < 4 → (passOne x).2.2.1 d = (on4 x).2.2.1 d := one_v x
  refine ⟨⟨?_, by omega, ?_, ?_, fun d hd => ?_⟩, rfl, ?_, ?_, ?_⟩
  · rw [one_g]
    exact e2
  · exact i3
  · rw [gq 5 (by decide)]
    exact ⟨i4.1, by omega⟩
  · rw [dv d hd, one_h x d hd]
    have z := i5 d hd
    rw [b4 d hd] at z
    rw [Int.add_zero]
    exact z
  · rw [one_g, ← G2]
    rfl
  · unfold totS
    rw [dv 0 (by decide), dv 1 (by decide), dv 2 (by decide), dv 3 (by decide)]
    rw [v1] at t2
    rw [v2, v1] at t3
    rw [v3, v2, v1] at t4
    have a0 : (on4 x).2.2.1 0 = (on2 x).2.2.1 0 := by rw [r4 0 (by decide) (by decide), r3 0 (by decide) (by decide)]
    have a1 : (on4 x).2.2.1 1 = (on2 x).2.2.1 1 := by rw [r4 1 (by decide) (by decide), r3 1 (by decide) (by decide)]
    have a2 : (on2 x).2.2.1 2 = x.2.2.1 2 := by rw [r2 2 (by decide) (by decide), r1 2 (by decide) (by decide)]
    have a3 : (on2 x).2.2.1 3 = x.2.2.1 3 := by rw [r2 3 (by decide) (by decide), r1 3 (by decide) (by decide)]
    rw [a2, a3] at t3
    rw [a0, a1]
    generalize tt ((on4 x).2.2.1 2).1 = A2 at *
    generalize tt ((on4 x).2.2.1 3).1 = A3 at *
    generalize tt ((on3 x).2.2.1 2).1 = B2 at *
    generalize tt ((on3 x).2.2.1 3).1 = B3 at *
    generalize tt ((on2 x).2.2.1 0).1 = C0 at *
    generalize tt ((on2 x).2.2.1 1).1 = C1 at *
    generalize tt ((on1 x).2.2.1 0).1 = D0 at *
    generalize tt ((on1 x).2.2.1 1).1 = D1 at *
    generalize tt (x.2.2.1 0).1 = E0 at *
    generalize tt (x.2.2.1 1).1 = E1 at *
    generalize tt (x.2.2.1 2).1 = E2 at *
    generalize tt (x.2.2.1 3).1 = E3 at *
    generalize incS x 0 = J0 at *
    generalize incS x 1 = J1 at *
    generalize incS x 2 = J2 at *
    generalize incS x 3 = J3 at *
    exact tot_4 t1 t2 t3 t4
  · refine ⟨o1 + o2 + o3 + o4, p1 + p2 + p3 + p4, by omega, by omega, ?_, ?_⟩
    · unfold ovS
      rw [dv 0 (by decide), dv 1 (by decide), dv 2 (by decide), dv 3 (by decide)]
      have a0 : (on4 x).2.2.1 0 = (on2 x).2.2.1 0 := by rw [r4 0 (by decide) (by decide), r3 0 (by decide) (by decide)]
      have a1 : (on4 x).2.2.1 1 = (on2 x).2.2.1 1 := by rw [r4 1 (by decide) (by decide), r3 1 (by decide) (by decide)]
      have a2 : (on2 x).2.2.1 2 = x.2.2.1 2 := by rw [r2 2 (by decide) (by decide), r1 2 (by decide) (by decide)]
      have a3 : (on2 x).2.2.1 3 = x.2.2.1 3 := by rw [r2 3 (by decide) (by decide), r1 3 (by decide) (by decide)]
      rw [a0, a1, w4, m4, w3, m3, a2, a3, m2, w2, w1, m1, ← nI_ad, ← nI_ad, ← nI_ad]
      generalize nI o1 = k1
      generalize nI o2 = k2
      generalize nI o3 = k3
      generalize nI o4 = k4
      exact ov_4 _ _ _ _ _ _ _ _
    · rw [gq 6 (by decide), gq 4 (by decide)]
      rw [s1] at l2
      rw [s2, s1] at l3
      rw [s3, s2, s1] at l4
      obtain ⟨c1, c2⟩ := mon_add (A := 0) (B := 0) hp1 hp2 n1 l1 n2 l2
      obtain ⟨c3, c4⟩ := mon_add (A := 0) (B := 0) (show p1 + p2 ≤ o1 + o2 by omega) hp3 c1 c2 n3 l3
      exact mon_add (A := 0) (B := 0) (show p1 + p2 + p3 ≤ o1 + o2 + o3 by omega) hp4 c3 c4 n4 l4
