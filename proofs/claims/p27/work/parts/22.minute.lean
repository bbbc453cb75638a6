/-! A MINUTE OF A STATION, AND MINUTES -/
theorem vin_lt {k : Int32} {n : Nat} {N : Int32} (hN : N.toInt = n) (h0 : ¬ k < 0) (h1 : k < N) : vp_in k n := vin_of hN h0 (Int32.not_le.mpr h1)
theorem le_cl (k : Int32) (hk : k.toNatClampNeg < 2 ^ 31) : k ≤ nI k.toNatClampNeg := by
  rw [Int32.le_iff_toInt_le, nI_toInt hk]
  show k.toInt ≤ ((k.toInt.toNat : Nat) : Int)
  omega
theorem cl_31 (k : Int32) : k.toNatClampNeg < 2 ^ 31 := by
  have := Int32.toInt_lt k
  show k.toInt.toNat < 2 ^ 31
  omega
theorem nle_cl {k : Int32} {i : Nat} (hi : i < k.toNatClampNeg) : ¬ k ≤ nI i := by
  have h := cl_31 k
  rw [Int32.le_iff_toInt_le, nI_toInt (by omega)]
  have : i < k.toInt.toNat := hi
  omega
theorem m_X4_twinOf_0 (l : Launch) (G : GG) : CtI l yX4_twinOf cX4_twinOf 1 (some .int) (RM 0) G [.int 0] [] 1 [] := by
  have h := m_X4_twinOf l G 0
  rw [show f_X4_twinOf_r 0 = 1 by decide] at h
  exact h
theorem m_X4_twinOf_1 (l : Launch) (G : GG) : CtI l yX4_twinOf cX4_twinOf 1 (some .int) (RM 0) G [.int 1] [] 0 [] := by
  have h := m_X4_twinOf l G 1
  rw [show f_X4_twinOf_r 1 = 0 by decide] at h
  exact h
theorem m_X4_twinOf_2 (l : Launch) (G : GG) : CtI l yX4_twinOf cX4_twinOf 1 (some .int) (RM 0) G [.int 2] [] 3 [] := by
  have h := m_X4_twinOf l G 2
  rw [show f_X4_twinOf_r 2 = 3 by decide] at h
  exact h
theorem m_X4_twinOf_3 (l : Launch) (G : GG) : CtI l yX4_twinOf cX4_twinOf 1 (some .int) (RM 0) G [.int 3] [] 2 [] := by
  have h := m_X4_twinOf l G 3
  rw [show f_X4_twinOf_r 3 = 2 by decide] at h
  exact h
theorem f_X3_passOneMinute_rq2_ex : ∃ F : StV → Int32, ∀ (x : StV), F x = f_X3_passMinuteOf_r x.1 x.2.1 (x.2.2.1 0) (x.2.2.2 0) (x.2.2.1 1) (x.2.2.2 1) := ⟨fun x => f_X3_passMinuteOf_r x.1 x.2.1 (x.2.2.1 0) (x.2.2.2 0) (x.2.2.1 1) (x.2.2.2 1), fun _ => rfl⟩
noncomputable def f_X3_passOneMinute_rq2 : StV → Int32 := Classical.choose f_X3_passOneMinute_rq2_ex
theorem f_X3_passOneMinute_rq2_eq (x : StV) : f_X3_passOneMinute_rq2 x = f_X3_passMinuteOf_r x.1 x.2.1 (x.2.2.1 0) (x.2.2.2 0) (x.2.2.1 1) (x.2.2.2 1) := Classical.choose_spec f_X3_passOneMinute_rq2_ex x
theorem f_X3_passOneMinute_gq2_ex : ∃ F : StV → (Nat → Int32), ∀ (x : StV), F x = f_X3_passMinuteOf_g x.1 x.2.1 (x.2.2.1 0) (x.2.2.2 0) (x.2.2.1 1) (x.2.2.2 1) := ⟨fun x => f_X3_passMinuteOf_g x.1 x.2.1 (x.2.2.1 0) (x.2.2.2 0) (x.2.2.1 1) (x.2.2.2 1), fun _ => rfl⟩
noncomputable def f_X3_passOneMinute_gq2 : StV → (Nat → Int32) := Classical.choose f_X3_passOneMinute_gq2_ex
theorem f_X3_passOneMinute_gq2_eq (x : StV) : f_X3_passOneMinute_gq2 x = f_X3_passMinuteOf_g x.1 x.2.1 (x.2.2.1 0) (x.2.2.2 0) (x.2.2.1 1) (x.2.2.2 1) := Classical.choose_spec f_X3_passOneMinute_gq2_ex x
theorem f_X3_passOneMinute_vq2_ex : ∃ F : StV → DO, ∀ (x : StV), F x = f_X3_passMinuteOf_v x.1 x.2.1 (x.2.2.1 0) (x.2.2.2 0) (x.2.2.1 1) (x.2.2.2 1) := ⟨fun x => f_X3_passMinuteOf_v x.1 x.2.1 (x.2.2.1 0) (x.2.2.2 0) (x.2.2.1 1) (x.2.2.2 1), fun _ => rfl⟩
noncomputable def f_X3_passOneMinute_vq2 : StV → DO := Classical.choose f_X3_passOneMinute_vq2_ex
theorem f_X3_passOneMinute_vq2_eq (x : StV) : f_X3_passOneMinute_vq2 x = f_X3_passMinuteOf_v x.1 x.2.1 (x.2.2.1 0) (x.2.2.2 0) (x.2.2.1 1) (x.2.2.2 1) := Classical.choose_spec f_X3_passOneMinute_vq2_ex x
theorem f_X3_passOneMinute_fq2_ex : ∃ F : StV → (Nat → Int8), ∀ (x : StV), F x = f_X3_passMinuteOf_f x.1 x.2.1 (x.2.2.1 0) (x.2.2.2 0) (x.2.2.1 1) (x.2.2.2 1) := ⟨fun x => f_X3_passMinuteOf_f x.1 x.2.1 (x.2.2.1 0) (x.2.2.2 0) (x.2.2.1 1) (x.2.2.2 1), fun _ => rfl⟩
noncomputable def f_X3_passOneMinute_fq2 : StV → (Nat → Int8) := Classical.choose f_X3_passOneMinute_fq2_ex
theorem f_X3_passOneMinute_fq2_eq (x : StV) : f_X3_passOneMinute_fq2 x = f_X3_passMinuteOf_f x.1 x.2.1 (x.2.2.1 0) (x.2.2.2 0) (x.2.2.1 1) (x.2.2.2 1) := Classical.choose_spec f_X3_passOneMinute_fq2_ex x
theorem f_X3_passOneMinute_tvq2_ex : ∃ F : StV → DO, ∀ (x : StV), F x = f_X3_passMinuteOf_tv x.1 x.2.1 (x.2.2.1 0) (x.2.2.2 0) (x.2.2.1 1) (x.2.2.2 1) := ⟨fun x => f_X3_passMinuteOf_tv x.1 x.2.1 (x.2.2.1 0) (x.2.2.2 0) (x.2.2.1 1) (x.2.2.2 1), fun _ => rfl⟩
noncomputable def f_X3_passOneMinute_tvq2 : StV → DO := Classical.choose f_X3_passOneMinute_tvq2_ex
theorem f_X3_passOneMinute_tvq2_eq (x : StV) : f_X3_passOneMinute_tvq2 x = f_X3_passMinuteOf_tv x.1 x.2.1 (x.2.2.1 0) (x.2.2.2 0) (x.2.2.1 1) (x.2.2.2 1) := Classical.choose_spec f_X3_passOneMinute_tvq2_ex x
theorem f_X3_passOneMinute_x3_ex : ∃ F : StV → Int32, ∀ (x : StV), F x = (if (f_X3_passOneMinute_rq2 x) = 0 then 0 else 1) := ⟨fun x => (if (f_X3_passOneMinute_rq2 x) = 0 then 0 else 1), fun _ => rfl⟩
noncomputable def f_X3_passOneMinute_x3 : StV → Int32 := Classical.choose f_X3_passOneMinute_x3_ex
theorem f_X3_passOneMinute_x3_eq (x : StV) : f_X3_passOneMinute_x3 x = (if (f_X3_passOneMinute_rq2 x) = 0 then 0 else 1) := Classical.choose_spec f_X3_passOneMinute_x3_ex x
theorem f_X3_passOneMinute_rq5_ex : ∃ F : StV → Int32, ∀ (x : StV), F x = f_X3_passMinuteOf_r (f_X3_passOneMinute_gq2 x) x.2.1 (f_X3_passOneMinute_tvq2 x) (x.2.2.2 1) (f_X3_passOneMinute_vq2 x) (f_X3_passOneMinute_fq2 x) := ⟨fun x => f_X3_passMinuteOf_r (f_X3_passOneMinute_gq2 x) x.2.1 (f_X3_passOneMinute_tvq2 x) (x.2.2.2 1) (f_X3_passOneMinute_vq2 x) (f_X3_passOneMinute_fq2 x), fun _ => rfl⟩
noncomputable def f_X3_passOneMinute_rq5 : StV → Int32 := Classical.choose f_X3_passOneMinute_rq5_ex
theorem f_X3_passOneMinute_rq5_eq (x : StV) : f_X3_passOneMinute_rq5 x = f_X3_passMinuteOf_r (f_X3_passOneMinute_gq2 x) x.2.1 (f_X3_passOneMinute_tvq2 x) (x.2.2.2 1) (f_X3_passOneMinute_vq2 x) (f_X3_passOneMinute_fq2 x) := Classical.choose_spec f_X3_passOneMinute_rq5_ex x
theorem f_X3_passOneMinute_gq5_ex : ∃ F : StV → (Nat → Int32), ∀ (x : StV), F x = f_X3_passMinuteOf_g (f_X3_passOneMinute_gq2 x) x.2.1 (f_X3_passOneMinute_tvq2 x) (x.2.2.2 1) (f_X3_passOneMinute_vq2 x) (f_X3_passOneMinute_fq2 x) := ⟨fun x => f_X3_passMinuteOf_g (f_X3_passOneMinute_gq2 x) x.2.1 (f_X3_passOneMinute_tvq2 x) (x.2.2.2 1) (f_X3_passOneMinute_vq2 x) (f_X3_passOneMinute_fq2 x), fun _ => rfl⟩
noncomputable def f_X3_passOneMinute_gq5 : StV → (Nat → Int32) := Classical.choose f_X3_passOneMinute_gq5_ex
theorem f_X3_passOneMinute_gq5_eq (x : StV) : f_X3_passOneMinute_gq5 x = f_X3_passMinuteOf_g (f_X3_passOneMinute_gq2 x) x.2.1 (f_X3_passOneMinute_tvq2 x) (x.2.2.2 1) (f_X3_passOneMinute_vq2 x) (f_X3_passOneMinute_fq2 x) := Classical.choose_spec f_X3_passOneMinute_gq5_ex x
theorem f_X3_passOneMinute_vq5_ex : ∃ F : StV → DO, ∀ (x : StV), F x = f_X3_passMinuteOf_v (f_X3_passOneMinute_gq2 x) x.2.1 (f_X3_passOneMinute_tvq2 x) (x.2.2.2 1) (f_X3_passOneMinute_vq2 x) (f_X3_passOneMinute_fq2 x) := ⟨fun x => f_X3_passMinuteOf_v (f_X3_passOneMinute_gq2 x) x.2.1 (f_X3_passOneMinute_tvq2 x) (x.2.2.2 1) (f_X3_passOneMinute_vq2 x) (f_X3_passOneMinute_fq2 x), fun _ => rfl⟩
noncomputable def f_X3_passOneMinute_vq5 : StV → DO := Classical.choose f_X3_passOneMinute_vq5_ex
theorem f_X3_passOneMinute_vq5_eq (x : StV) : f_X3_passOneMinute_vq5 x = f_X3_passMinuteOf_v (f_X3_passOneMinute_gq2 x) x.2.1 (f_X3_passOneMinute_tvq2 x) (x.2.2.2 1) (f_X3_passOneMinute_vq2 x) (f_X3_passOneMinute_fq2 x) := Classical.choose_spec f_X3_passOneMinute_vq5_ex x
theorem f_X3_passOneMinute_fq5_ex : ∃ F : StV → (Nat → Int8), ∀ (x : StV), F x = f_X3_passMinuteOf_f (f_X3_passOneMinute_gq2 x) x.2.1 (f_X3_passOneMinute_tvq2 x) (x.2.2.2 1) (f_X3_passOneMinute_vq2 x) (f_X3_passOneMinute_fq2 x) := ⟨fun x => f_X3_passMinuteOf_f (f_X3_passOneMinute_gq2 x) x.2.1 (f_X3_passOneMinute_tvq2 x) (x.2.2.2 1) (f_X3_passOneMinute_vq2 x) (f_X3_passOneMinute_fq2 x), fun _ => rfl⟩
noncomputable def f_X3_passOneMinute_fq5 : StV → (Nat → Int8) := Classical.choose f_X3_passOneMinute_fq5_ex
theorem f_X3_passOneMinute_fq5_eq (x : StV) : f_X3_passOneMinute_fq5 x = f_X3_passMinuteOf_f (f_X3_passOneMinute_gq2 x) x.2.1 (f_X3_passOneMinute_tvq2 x) (x.2.2.2 1) (f_X3_passOneMinute_vq2 x) (f_X3_passOneMinute_fq2 x) := Classical.choose_spec f_X3_passOneMinute_fq5_ex x
theorem f_X3_passOneMinute_tvq5_ex : ∃ F : StV → DO, ∀ (x : StV), F x = f_X3_passMinuteOf_tv (f_X3_passOneMinute_gq2 x) x.2.1 (f_X3_passOneMinute_tvq2 x) (x.2.2.2 1) (f_X3_passOneMinute_vq2 x) (f_X3_passOneMinute_fq2 x) := ⟨fun x => f_X3_passMinuteOf_tv (f_X3_passOneMinute_gq2 x) x.2.1 (f_X3_passOneMinute_tvq2 x) (x.2.2.2 1) (f_X3_passOneMinute_vq2 x) (f_X3_passOneMinute_fq2 x), fun _ => rfl⟩
noncomputable def f_X3_passOneMinute_tvq5 : StV → DO := Classical.choose f_X3_passOneMinute_tvq5_ex
theorem f_X3_passOneMinute_tvq5_eq (x : StV) : f_X3_passOneMinute_tvq5 x = f_X3_passMinuteOf_tv (f_X3_passOneMinute_gq2 x) x.2.1 (f_X3_passOneMinute_tvq2 x) (x.2.2.2 1) (f_X3_passOneMinute_vq2 x) (f_X3_passOneMinute_fq2 x) := Classical.choose_spec f_X3_passOneMinute_tvq5_ex x
theorem f_X3_passOneMinute_x6_ex : ∃ F : StV → Int32, ∀ (x : StV), F x = (if (f_X3_passOneMinute_rq5 x) = 0 then (f_X3_passOneMinute_x3 x) else 1) := ⟨fun x => (if (f_X3_passOneMinute_rq5 x) = 0 then (f_X3_passOneMinute_x3 x) else 1), fun _ => rfl⟩
noncomputable def f_X3_passOneMinute_x6 : StV → Int32 := Classical.choose f_X3_passOneMinute_x6_ex
theorem f_X3_passOneMinute_x6_eq (x : StV) : f_X3_passOneMinute_x6 x = (if (f_X3_passOneMinute_rq5 x) = 0 then (f_X3_passOneMinute_x3 x) else 1) := Classical.choose_spec f_X3_passOneMinute_x6_ex x
theorem f_X3_passOneMinute_rq8_ex : ∃ F : StV → Int32, ∀ (x : StV), F x = f_X3_passMinuteOf_r (f_X3_passOneMinute_gq5 x) x.2.1 (x.2.2.1 2) (x.2.2.2 2) (x.2.2.1 3) (x.2.2.2 3) := ⟨fun x => f_X3_passMinuteOf_r (f_X3_passOneMinute_gq5 x) x.2.1 (x.2.2.1 2) (x.2.2.2 2) (x.2.2.1 3) (x.2.2.2 3), fun _ => rfl⟩
noncomputable def f_X3_passOneMinute_rq8 : StV → Int32 := Classical.choose f_X3_passOneMinute_rq8_ex
theorem f_X3_passOneMinute_rq8_eq (x : StV) : f_X3_passOneMinute_rq8 x = f_X3_passMinuteOf_r (f_X3_passOneMinute_gq5 x) x.2.1 (x.2.2.1 2) (x.2.2.2 2) (x.2.2.1 3) (x.2.2.2 3) := Classical.choose_spec f_X3_passOneMinute_rq8_ex x
theorem f_X3_passOneMinute_gq8_ex : ∃ F : StV → (Nat → Int32), ∀ (x : StV), F x = f_X3_passMinuteOf_g (f_X3_passOneMinute_gq5 x) x.2.1 (x.2.2.1 2) (x.2.2.2 2) (x.2.2.1 3) (x.2.2.2 3) := ⟨fun x => f_X3_passMinuteOf_g (f_X3_passOneMinute_gq5 x) x.2.1 (x.2.2.1 2) (x.2.2.2 2) (x.2.2.1 3) (x.2.2.2 3), fun _ => rfl⟩
noncomputable def f_X3_passOneMinute_gq8 : StV → (Nat → Int32) := Classical.choose f_X3_passOneMinute_gq8_ex
theorem f_X3_passOneMinute_gq8_eq (x : StV) : f_X3_passOneMinute_gq8 x = f_X3_passMinuteOf_g (f_X3_passOneMinute_gq5 x) x.2.1 (x.2.2.1 2) (x.2.2.2 2) (x.2.2.1 3) (x.2.2.2 3) := Classical.choose_spec f_X3_passOneMinute_gq8_ex x
theorem f_X3_passOneMinute_vq8_ex : ∃ F : StV → DO, ∀ (x : StV), F x = f_X3_passMinuteOf_v (f_X3_passOneMinute_gq5 x) x.2.1 (x.2.2.1 2) (x.2.2.2 2) (x.2.2.1 3) (x.2.2.2 3) := ⟨fun x => f_X3_passMinuteOf_v (f_X3_passOneMinute_gq5 x) x.2.1 (x.2.2.1 2) (x.2.2.2 2) (x.2.2.1 3) (x.2.2.2 3), fun _ => rfl⟩
noncomputable def f_X3_passOneMinute_vq8 : StV → DO := Classical.choose f_X3_passOneMinute_vq8_ex
theorem f_X3_passOneMinute_vq8_eq (x : StV) : f_X3_passOneMinute_vq8 x = f_X3_passMinuteOf_v (f_X3_passOneMinute_gq5 x) x.2.1 (x.2.2.1 2) (x.2.2.2 2) (x.2.2.1 3) (x.2.2.2 3) := Classical.choose_spec f_X3_passOneMinute_vq8_ex x
theorem f_X3_passOneMinute_fq8_ex : ∃ F : StV → (Nat → Int8), ∀ (x : StV), F x = f_X3_passMinuteOf_f (f_X3_passOneMinute_gq5 x) x.2.1 (x.2.2.1 2) (x.2.2.2 2) (x.2.2.1 3) (x.2.2.2 3) := ⟨fun x => f_X3_passMinuteOf_f (f_X3_passOneMinute_gq5 x) x.2.1 (x.2.2.1 2) (x.2.2.2 2) (x.2.2.1 3) (x.2.2.2 3), fun _ => rfl⟩
noncomputable def f_X3_passOneMinute_fq8 : StV → (Nat → Int8) := Classical.choose f_X3_passOneMinute_fq8_ex
theorem f_X3_passOneMinute_fq8_eq (x : StV) : f_X3_passOneMinute_fq8 x = f_X3_passMinuteOf_f (f_X3_passOneMinute_gq5 x) x.2.1 (x.2.2.1 2) (x.2.2.2 2) (x.2.2.1 3) (x.2.2.2 3) := Classical.choose_spec f_X3_passOneMinute_fq8_ex x
theorem f_X3_passOneMinute_tvq8_ex : ∃ F : StV → DO, ∀ (x : StV), F x = f_X3_passMinuteOf_tv (f_X3_passOneMinute_gq5 x) x.2.1 (x.2.2.1 2) (x.2.2.2 2) (x.2.2.1 3) (x.2.2.2 3) := ⟨fun x => f_X3_passMinuteOf_tv (f_X3_passOneMinute_gq5 x) x.2.1 (x.2.2.1 2) (x.2.2.2 2) (x.2.2.1 3) (x.2.2.2 3), fun _ => rfl⟩
noncomputable def f_X3_passOneMinute_tvq8 : StV → DO := Classical.choose f_X3_passOneMinute_tvq8_ex
theorem f_X3_passOneMinute_tvq8_eq (x : StV) : f_X3_passOneMinute_tvq8 x = f_X3_passMinuteOf_tv (f_X3_passOneMinute_gq5 x) x.2.1 (x.2.2.1 2) (x.2.2.2 2) (x.2.2.1 3) (x.2.2.2 3) := Classical.choose_spec f_X3_passOneMinute_tvq8_ex x
theorem f_X3_passOneMinute_x9_ex : ∃ F : StV → Int32, ∀ (x : StV), F x = (if (f_X3_passOneMinute_rq8 x) = 0 then (f_X3_passOneMinute_x6 x) else 1) := ⟨fun x => (if (f_X3_passOneMinute_rq8 x) = 0 then (f_X3_passOneMinute_x6 x) else 1), fun _ => rfl⟩
noncomputable def f_X3_passOneMinute_x9 : StV → Int32 := Classical.choose f_X3_passOneMinute_x9_ex
theorem f_X3_passOneMinute_x9_eq (x : StV) : f_X3_passOneMinute_x9 x = (if (f_X3_passOneMinute_rq8 x) = 0 then (f_X3_passOneMinute_x6 x) else 1) := Classical.choose_spec f_X3_passOneMinute_x9_ex x
theorem f_X3_passOneMinute_rq11_ex : ∃ F : StV → Int32, ∀ (x : StV), F x = f_X3_passMinuteOf_r (f_X3_passOneMinute_gq8 x) x.2.1 (f_X3_passOneMinute_tvq8 x) (x.2.2.2 3) (f_X3_passOneMinute_vq8 x) (f_X3_passOneMinute_fq8 x) := ⟨fun x => f_X3_passMinuteOf_r (f_X3_passOneMinute_gq8 x) x.2.1 (f_X3_passOneMinute_tvq8 x) (x.2.2.2 3) (f_X3_passOneMinute_vq8 x) (f_X3_passOneMinute_fq8 x), fun _ => rfl⟩
noncomputable def f_X3_passOneMinute_rq11 : StV → Int32 := Classical.choose f_X3_passOneMinute_rq11_ex
theorem f_X3_passOneMinute_rq11_eq (x : StV) : f_X3_passOneMinute_rq11 x = f_X3_passMinuteOf_r (f_X3_passOneMinute_gq8 x) x.2.1 (f_X3_passOneMinute_tvq8 x) (x.2.2.2 3) (f_X3_passOneMinute_vq8 x) (f_X3_passOneMinute_fq8 x) := Classical.choose_spec f_X3_passOneMinute_rq11_ex x
theorem f_X3_passOneMinute_gq11_ex : ∃ F : StV → (Nat → Int32), ∀ (x : StV), F x = f_X3_passMinuteOf_g (f_X3_passOneMinute_gq8 x) x.2.1 (f_X3_passOneMinute_tvq8 x) (x.2.2.2 3) (f_X3_passOneMinute_vq8 x) (f_X3_passOneMinute_fq8 x) := ⟨fun x => f_X3_passMinuteOf_g (f_X3_passOneMinute_gq8 x) x.2.1 (f_X3_passOneMinute_tvq8 x) (x.2.2.2 3) (f_X3_passOneMinute_vq8 x) (f_X3_passOneMinute_fq8 x), fun _ => rfl⟩
noncomputable def f_X3_passOneMinute_gq11 : StV → (Nat → Int32) := Classical.choose f_X3_passOneMinute_gq11_ex
theorem f_X3_passOneMinute_gq11_eq (x : StV) : f_X3_passOneMinute_gq11 x = f_X3_passMinuteOf_g (f_X3_passOneMinute_gq8 x) x.2.1 (f_X3_passOneMinute_tvq8 x) (x.2.2.2 3) (f_X3_passOneMinute_vq8 x) (f_X3_passOneMinute_fq8 x) := Classical.choose_spec f_X3_passOneMinute_gq11_ex x
theorem f_X3_passOneMinute_vq11_ex : ∃ F : StV → DO, ∀ (x : StV), F x = f_X3_passMinuteOf_v (f_X3_passOneMinute_gq8 x) x.2.1 (f_X3_passOneMinute_tvq8 x) (x.2.2.2 3) (f_X3_passOneMinute_vq8 x) (f_X3_passOneMinute_fq8 x) := ⟨fun x => f_X3_passMinuteOf_v (f_X3_passOneMinute_gq8 x) x.2.1 (f_X3_passOneMinute_tvq8 x) (x.2.2.2 3) (f_X3_passOneMinute_vq8 x) (f_X3_passOneMinute_fq8 x), fun _ => rfl⟩
noncomputable def f_X3_passOneMinute_vq11 : StV → DO := Classical.choose f_X3_passOneMinute_vq11_ex
theorem f_X3_passOneMinute_vq11_eq (x : StV) : f_X3_passOneMinute_vq11 x = f_X3_passMinuteOf_v (f_X3_passOneMinute_gq8 x) x.2.1 (f_X3_passOneMinute_tvq8 x) (x.2.2.2 3) (f_X3_passOneMinute_vq8 x) (f_X3_passOneMinute_fq8 x) := Classical.choose_spec f_X3_passOneMinute_vq11_ex x
theorem f_X3_passOneMinute_fq11_ex : ∃ F : StV → (Nat → Int8), ∀ (x : StV), F x = f_X3_passMinuteOf_f (f_X3_passOneMinute_gq8 x) x.2.1 (f_X3_passOneMinute_tvq8 x) (x.2.2.2 3) (f_X3_passOneMinute_vq8 x) (f_X3_passOneMinute_fq8 x) := ⟨fun x => f_X3_passMinuteOf_f (f_X3_passOneMinute_gq8 x) x.2.1 (f_X3_passOneMinute_tvq8 x) (x.2.2.2 3) (f_X3_passOneMinute_vq8 x) (f_X3_passOneMinute_fq8 x), fun _ => rfl⟩
noncomputable def f_X3_passOneMinute_fq11 : StV → (Nat → Int8) := Classical.choose f_X3_passOneMinute_fq11_ex
theorem f_X3_passOneMinute_fq11_eq (x : StV) : f_X3_passOneMinute_fq11 x = f_X3_passMinuteOf_f (f_X3_passOneMinute_gq8 x) x.2.1 (f_X3_passOneMinute_tvq8 x) (x.2.2.2 3) (f_X3_passOneMinute_vq8 x) (f_X3_passOneMinute_fq8 x) := Classical.choose_spec f_X3_passOneMinute_fq11_ex x
theorem f_X3_passOneMinute_tvq11_ex : ∃ F : StV → DO, ∀ (x : StV), F x = f_X3_passMinuteOf_tv (f_X3_passOneMinute_gq8 x) x.2.1 (f_X3_passOneMinute_tvq8 x) (x.2.2.2 3) (f_X3_passOneMinute_vq8 x) (f_X3_passOneMinute_fq8 x) := ⟨fun x => f_X3_passMinuteOf_tv (f_X3_passOneMinute_gq8 x) x.2.1 (f_X3_passOneMinute_tvq8 x) (x.2.2.2 3) (f_X3_passOneMinute_vq8 x) (f_X3_passOneMinute_fq8 x), fun _ => rfl⟩
noncomputable def f_X3_passOneMinute_tvq11 : StV → DO := Classical.choose f_X3_passOneMinute_tvq11_ex
theorem f_X3_passOneMinute_tvq11_eq (x : StV) : f_X3_passOneMinute_tvq11 x = f_X3_passMinuteOf_tv (f_X3_passOneMinute_gq8 x) x.2.1 (f_X3_passOneMinute_tvq8 x) (x.2.2.2 3) (f_X3_passOneMinute_vq8 x) (f_X3_passOneMinute_fq8 x) := Classical.choose_spec f_X3_passOneMinute_tvq11_ex x
theorem f_X3_passOneMinute_x12_ex : ∃ F : StV → Int32, ∀ (x : StV), F x = (if (f_X3_passOneMinute_rq11 x) = 0 then (f_X3_passOneMinute_x9 x) else 1) := ⟨fun x => (if (f_X3_passOneMinute_rq11 x) = 0 then (f_X3_passOneMinute_x9 x) else 1), fun _ => rfl⟩
noncomputable def f_X3_passOneMinute_x12 : StV → Int32 := Classical.choose f_X3_passOneMinute_x12_ex
theorem f_X3_passOneMinute_x12_eq (x : StV) : f_X3_passOneMinute_x12 x = (if (f_X3_passOneMinute_rq11 x) = 0 then (f_X3_passOneMinute_x9 x) else 1) := Classical.choose_spec f_X3_passOneMinute_x12_ex x
theorem f_X3_passOneMinute_g_ex : ∃ F : StV → (Nat → Int32), ∀ (x : StV), F x = upd (f_X3_passOneMinute_gq11 x) 2 (((f_X3_passOneMinute_gq11 x) 2) + 1) := ⟨fun x => upd (f_X3_passOneMinute_gq11 x) 2 (((f_X3_passOneMinute_gq11 x) 2) + 1), fun _ => rfl⟩
noncomputable def f_X3_passOneMinute_g : StV → (Nat → Int32) := Classical.choose f_X3_passOneMinute_g_ex
theorem f_X3_passOneMinute_g_eq (x : StV) : f_X3_passOneMinute_g x = upd (f_X3_passOneMinute_gq11 x) 2 (((f_X3_passOneMinute_gq11 x) 2) + 1) := Classical.choose_spec f_X3_passOneMinute_g_ex x
theorem f_X3_passOneMinute_v0_ex : ∃ F : StV → DO, ∀ (x : StV), F x = (f_X3_passOneMinute_tvq5 x) := ⟨fun x => (f_X3_passOneMinute_tvq5 x), fun _ => rfl⟩
noncomputable def f_X3_passOneMinute_v0 : StV → DO := Classical.choose f_X3_passOneMinute_v0_ex
theorem f_X3_passOneMinute_v0_eq (x : StV) : f_X3_passOneMinute_v0 x = (f_X3_passOneMinute_tvq5 x) := Classical.choose_spec f_X3_passOneMinute_v0_ex x
theorem f_X3_passOneMinute_f0_ex : ∃ F : StV → (Nat → Int8), ∀ (x : StV), F x = (f_X3_passOneMinute_fq2 x) := ⟨fun x => (f_X3_passOneMinute_fq2 x), fun _ => rfl⟩
noncomputable def f_X3_passOneMinute_f0 : StV → (Nat → Int8) := Classical.choose f_X3_passOneMinute_f0_ex
theorem f_X3_passOneMinute_f0_eq (x : StV) : f_X3_passOneMinute_f0 x = (f_X3_passOneMinute_fq2 x) := Classical.choose_spec f_X3_passOneMinute_f0_ex x
theorem f_X3_passOneMinute_v1_ex : ∃ F : StV → DO, ∀ (x : StV), F x = (f_X3_passOneMinute_vq5 x) := ⟨fun x => (f_X3_passOneMinute_vq5 x), fun _ => rfl⟩
noncomputable def f_X3_passOneMinute_v1 : StV → DO := Classical.choose f_X3_passOneMinute_v1_ex
theorem f_X3_passOneMinute_v1_eq (x : StV) : f_X3_passOneMinute_v1 x = (f_X3_passOneMinute_vq5 x) := Classical.choose_spec f_X3_passOneMinute_v1_ex x
theorem f_X3_passOneMinute_f1_ex : ∃ F : StV → (Nat → Int8), ∀ (x : StV), F x = (f_X3_passOneMinute_fq5 x) := ⟨fun x => (f_X3_passOneMinute_fq5 x), fun _ => rfl⟩
noncomputable def f_X3_passOneMinute_f1 : StV → (Nat → Int8) := Classical.choose f_X3_passOneMinute_f1_ex
theorem f_X3_passOneMinute_f1_eq (x : StV) : f_X3_passOneMinute_f1 x = (f_X3_passOneMinute_fq5 x) := Classical.choose_spec f_X3_passOneMinute_f1_ex x
theorem f_X3_passOneMinute_v2_ex : ∃ F : StV → DO, ∀ (x : StV), F x = (f_X3_passOneMinute_tvq11 x) := ⟨fun x => (f_X3_passOneMinute_tvq11 x), fun _ => rfl⟩
noncomputable def f_X3_passOneMinute_v2 : StV → DO := Classical.choose f_X3_passOneMinute_v2_ex
theorem f_X3_passOneMinute_v2_eq (x : StV) : f_X3_passOneMinute_v2 x = (f_X3_passOneMinute_tvq11 x) := Classical.choose_spec f_X3_passOneMinute_v2_ex x
theorem f_X3_passOneMinute_f2_ex : ∃ F : StV → (Nat → Int8), ∀ (x : StV), F x = (f_X3_passOneMinute_fq8 x) := ⟨fun x => (f_X3_passOneMinute_fq8 x), fun _ => rfl⟩
noncomputable def f_X3_passOneMinute_f2 : StV → (Nat → Int8) := Classical.choose f_X3_passOneMinute_f2_ex
theorem f_X3_passOneMinute_f2_eq (x : StV) : f_X3_passOneMinute_f2 x = (f_X3_passOneMinute_fq8 x) := Classical.choose_spec f_X3_passOneMinute_f2_ex x
theorem f_X3_passOneMinute_v3_ex : ∃ F : StV → DO, ∀ (x : StV), F x = (f_X3_passOneMinute_vq11 x) := ⟨fun x => (f_X3_passOneMinute_vq11 x), fun _ => rfl⟩
noncomputable def f_X3_passOneMinute_v3 : StV → DO := Classical.choose f_X3_passOneMinute_v3_ex
theorem f_X3_passOneMinute_v3_eq (x : StV) : f_X3_passOneMinute_v3 x = (f_X3_passOneMinute_vq11 x) := Classical.choose_spec f_X3_passOneMinute_v3_ex x
theorem f_X3_passOneMinute_f3_ex : ∃ F : StV → (Nat → Int8), ∀ (x : StV), F x = (f_X3_passOneMinute_fq11 x) := ⟨fun x => (f_X3_passOneMinute_fq11 x), fun _ => rfl⟩
noncomputable def f_X3_passOneMinute_f3 : StV → (Nat → Int8) := Classical.choose f_X3_passOneMinute_f3_ex
theorem f_X3_passOneMinute_f3_eq (x : StV) : f_X3_passOneMinute_f3 x = (f_X3_passOneMinute_fq11 x) := Classical.choose_spec f_X3_passOneMinute_f3_ex x
theorem f_X3_passOneMinute_r_ex : ∃ F : StV → Int32, ∀ (x : StV), F x = (f_X3_passOneMinute_x12 x) := ⟨fun x => (f_X3_passOneMinute_x12 x), fun _ => rfl⟩
noncomputable def f_X3_passOneMinute_r : StV → Int32 := Classical.choose f_X3_passOneMinute_r_ex
theorem f_X3_passOneMinute_r_eq (x : StV) : f_X3_passOneMinute_r x = (f_X3_passOneMinute_x12 x) := Classical.choose_spec f_X3_passOneMinute_r_ex x
set_option maxRecDepth 100000 in
set_option maxHeartbeats 4000000 in
theorem m_X3_passOneMinute (l : Launch) (G : GG) (ad : Nat → Nat) (x : StV)  : CtI l yX3_passOneMinute cX3_passOneMinute 3 (some .boolean) (RM 4) G [.ref (ad 0)] (cSt G ad x) (f_X3_passOneMinute_r x) (cSt G ad (f_X3_passOneMinute_g x, x.2.1, pick4 (f_X3_passOneMinute_v0 x) (f_X3_passOneMinute_v1 x) (f_X3_passOneMinute_v2 x) (f_X3_passOneMinute_v3 x), pick4 (f_X3_passOneMinute_f0 x) (f_X3_passOneMinute_f1 x) (f_X3_passOneMinute_f2 x) (f_X3_passOneMinute_f3 x))) := by
  refine ct_I RX3 [(0, .ref (ad 0))] rfl (by decide +kernel) (Nat.le_of_ble_eq_true rfl) rfl ?_
  intro p e s m args below meth c A C hr hk hnm
  generalize hQ : (MQ below (PostI G A (f_X3_passOneMinute_r x) (cSt G ad (f_X3_passOneMinute_g x, x.2.1, pick4 (f_X3_passOneMinute_v0 x) (f_X3_passOneMinute_v1 x) (f_X3_passOneMinute_v2 x) (f_X3_passOneMinute_v3 x), pick4 (f_X3_passOneMinute_f0 x) (f_X3_passOneMinute_f1 x) (f_X3_passOneMinute_f2 x) (f_X3_passOneMinute_f3 x)))) args s (RM 4).cells (RM 4).slots A) = Q
  refine j_w ([oS (ad 0) (ad 1) (ad 2) x.1, aI G (ad 1) 7 x.2.1, aD G (ad 2) 4 (fun k => some (ad (3 + 2 * k))), oD (ad 3) (ad 4) (x.2.2.1 0), aB G (ad 4) (x.2.2.2 0), oD (ad 5) (ad 6) (x.2.2.1 1), aB G (ad 6) (x.2.2.2 1), oD (ad 7) (ad 8) (x.2.2.1 2), aB G (ad 8) (x.2.2.2 2), oD (ad 9) (ad 10) (x.2.2.1 3), aB G (ad 10) (x.2.2.2 3)]) rfl ?_
  refine j_iconst (v := 0) C dX3_passOneMinute_0 (by decide) ?_
  refine j_istore_n C [(1, .int 0), (0, .ref (ad 0))] dX3_passOneMinute_1 (by decide) rfl ?_
  refine j_iconst (v := 0) C dX3_passOneMinute_2 (by decide) ?_
  refine j_istore_n C [(2, .int 0), (1, .int 0), (0, .ref (ad 0))] dX3_passOneMinute_3 (by decide) rfl ?_
  refine j_iload_n C dX3_passOneMinute_4 0 rfl ?_
  refine j_iconst (v := 4) C dX3_passOneMinute_5 (by decide) ?_
  refine j_icmp_ge (tgt := 39) C dX3_passOneMinute_6 (by decide) (fun h => absurd h (by decide)) (fun _ => ?_)
  refine j_aload_n C dX3_passOneMinute_9 2 rfl ?_
  refine j_aload_n C dX3_passOneMinute_10 2 rfl ?_
  refine j_get C kin3 rfl 0 rfl 1 (by decide) kw_76 rfl (v := .ref (ad 2)) rfl dX3_passOneMinute_11 ?_
  refine j_iload_n C dX3_passOneMinute_14 0 rfl ?_
  refine j_aaldD C 2 rfl (vin_lit rfl) (y := ad 3) rfl dX3_passOneMinute_15 ?_
  refine j_aload_n C dX3_passOneMinute_16 2 rfl ?_
  refine j_get C kin3 rfl 0 rfl 1 (by decide) kw_76 rfl (v := .ref (ad 2)) rfl dX3_passOneMinute_17 ?_
  refine j_iload_n C dX3_passOneMinute_20 0 rfl ?_
  refine j_pureSN_i (r := 1) C (m_X4_twinOf_0 l G) 1 kw_168 (List.mem_of_getElem? (i := 6) rfl) kw_1 kw_167 (by decide +kernel) ⟨(Nat.le_of_ble_eq_true rfl), (Nat.le_of_ble_eq_true rfl)⟩ rfl rfl (Nat.le_of_ble_eq_true rfl) dX3_passOneMinute_21 ⟨(Nat.le_of_ble_eq_true rfl), (Nat.le_of_ble_eq_true rfl)⟩ ?_
  refine j_aaldD C 2 rfl (vin_lit rfl) (y := ad 5) rfl dX3_passOneMinute_24 ?_
  refine j_callV_i (r := f_X3_passMinuteOf_r x.1 x.2.1 (x.2.2.1 0) (x.2.2.2 0) (x.2.2.1 1) (x.2.2.2 1)) (wc' := [oS (ad 0) (ad 1) (ad 2) (f_X3_passMinuteOf_g x.1 x.2.1 (x.2.2.1 0) (x.2.2.2 0) (x.2.2.1 1) (x.2.2.2 1)), aI G (ad 1) 7 x.2.1, oD (ad 3) (ad 4) (f_X3_passMinuteOf_v x.1 x.2.1 (x.2.2.1 0) (x.2.2.2 0) (x.2.2.1 1) (x.2.2.2 1)), aB G (ad 4) (f_X3_passMinuteOf_f x.1 x.2.1 (x.2.2.1 0) (x.2.2.2 0) (x.2.2.1 1) (x.2.2.2 1)), oD (ad 5) (ad 6) (f_X3_passMinuteOf_tv x.1 x.2.1 (x.2.2.1 0) (x.2.2.2 0) (x.2.2.1 1) (x.2.2.2 1)), aB G (ad 6) (x.2.2.2 1)]) C (m_X3_passMinuteOf l G (ad 0) (ad 3) (ad 5) (ad 1) (ad 2) (ad 4) (ad 6) x.1 x.2.1 (x.2.2.1 0) (x.2.2.2 0) (x.2.2.1 1) (x.2.2.2 1)) rfl 0 rfl 2 (gV kw_169 kw_170 kw_342 kw_2 kw_171) (by decide +kernel) ⟨(Nat.le_of_ble_eq_true rfl), (Nat.le_of_ble_eq_true rfl)⟩ rfl rfl (Nat.le_of_ble_eq_true rfl) dX3_passOneMinute_25 ⟨(Nat.le_of_ble_eq_true rfl), (Nat.le_of_ble_eq_true rfl)⟩ [aD G (ad 2) 4 (fun k => some (ad (3 + 2 * k))), oD (ad 7) (ad 8) (x.2.2.1 2), aB G (ad 8) (x.2.2.2 2), oD (ad 9) (ad 10) (x.2.2.1 3), aB G (ad 10) (x.2.2.2 3)] [oS (ad 0) (ad 1) (ad 2) (f_X3_passMinuteOf_g x.1 x.2.1 (x.2.2.1 0) (x.2.2.2 0) (x.2.2.1 1) (x.2.2.2 1)), aI G (ad 1) 7 x.2.1, oD (ad 3) (ad 4) (f_X3_passMinuteOf_v x.1 x.2.1 (x.2.2.1 0) (x.2.2.2 0) (x.2.2.1 1) (x.2.2.2 1)), aB G (ad 4) (f_X3_passMinuteOf_f x.1 x.2.1 (x.2.2.1 0) (x.2.2.2 0) (x.2.2.1 1) (x.2.2.2 1)), oD (ad 5) (ad 6) (f_X3_passMinuteOf_tv x.1 x.2.1 (x.2.2.1 0) (x.2.2.2 0) (x.2.2.1 1) (x.2.2.2 1)), aB G (ad 6) (x.2.2.2 1), aD G (ad 2) 4 (fun k => some (ad (3 + 2 * k))), oD (ad 7) (ad 8) (x.2.2.1 2), aB G (ad 8) (x.2.2.2 2), oD (ad 9) (ad 10) (x.2.2.1 3), aB G (ad 10) (x.2.2.2 3)] (perm_idx [0, 1, 3, 4, 5, 6, 2, 7, 8, 9, 10] 11 rfl (by decide +kernel) rfl) rfl ?_
  generalize hzw0 : f_X3_passMinuteOf_r x.1 x.2.1 (x.2.2.1 0) (x.2.2.2 0) (x.2.2.1 1) (x.2.2.2 1) = w0
  have hw0 : f_X3_passOneMinute_rq2 x = w0 := by subst hzw0; exact (f_X3_passOneMinute_rq2_eq x)
  generalize hzw1 : f_X3_passMinuteOf_g x.1 x.2.1 (x.2.2.1 0) (x.2.2.2 0) (x.2.2.1 1) (x.2.2.2 1) = w1
  have hw1 : f_X3_passOneMinute_gq2 x = w1 := by subst hw0; subst hzw1; exact (f_X3_passOneMinute_gq2_eq x)
  generalize hzw2 : f_X3_passMinuteOf_v x.1 x.2.1 (x.2.2.1 0) (x.2.2.2 0) (x.2.2.1 1) (x.2.2.2 1) = w2
  have hw2 : f_X3_passOneMinute_vq2 x = w2 := by subst hw0 hw1; subst hzw2; exact (f_X3_passOneMinute_vq2_eq x)
  generalize hzw3 : f_X3_passMinuteOf_f x.1 x.2.1 (x.2.2.1 0) (x.2.2.2 0) (x.2.2.1 1) (x.2.2.2 1) = w3
  have hw3 : f_X3_passOneMinute_fq2 x = w3 := by subst hw0 hw1 hw2; subst hzw3; exact (f_X3_passOneMinute_fq2_eq x)
  generalize hzw4 : f_X3_passMinuteOf_tv x.1 x.2.1 (x.2.2.1 0) (x.2.2.2 0) (x.2.2.1 1) (x.2.2.2 1) = w4
  have hw4 : f_X3_passOneMinute_tvq2 x = w4 := by subst hw0 hw1 hw2 hw3; subst hzw4; exact (f_X3_passOneMinute_tvq2_eq x)
  have K33 : WJ p l e (RM 4) s m args below meth c G A 3 0 0 Q ([oS (ad 0) (ad 1) (ad 2) w1, aI G (ad 1) 7 x.2.1, oD (ad 3) (ad 4) w2, aB G (ad 4) w3, oD (ad 5) (ad 6) w4, aB G (ad 6) (x.2.2.2 1), aD G (ad 2) 4 (fun k => some (ad (3 + 2 * k))), oD (ad 7) (ad 8) (x.2.2.1 2), aB G (ad 8) (x.2.2.2 2), oD (ad 9) (ad 10) (x.2.2.1 3), aB G (ad 10) (x.2.2.2 3)]) [(2, .int 0), (1, .int (f_X3_passOneMinute_x3 x)), (0, .ref (ad 0))] 33 [] := by
    generalize hw5 : f_X3_passOneMinute_x3 x = w5
    refine j_iinc (v := 1) C [(2, .int 1), (1, .int w5), (0, .ref (ad 0))] dX3_passOneMinute_33 (k := 0) rfl (by decide) (by decide) rfl ?_
    refine j_goto (tgt := 4) C dX3_passOneMinute_36 (by decide) ?_
    refine j_iload_n C dX3_passOneMinute_4 0 rfl ?_
    refine j_iconst (v := 4) C dX3_passOneMinute_5 (by decide) ?_
    refine j_icmp_ge (tgt := 39) C dX3_passOneMinute_6 (by decide) (fun h => absurd h (by decide)) (fun _ => ?_)
    refine j_aload_n C dX3_passOneMinute_9 2 rfl ?_
    refine j_aload_n C dX3_passOneMinute_10 2 rfl ?_
    refine j_get C kin3 rfl 0 rfl 1 (by decide) kw_76 rfl (v := .ref (ad 2)) rfl dX3_passOneMinute_11 ?_
    refine j_iload_n C dX3_passOneMinute_14 0 rfl ?_
    refine j_aaldD C 6 rfl (vin_lit rfl) (y := ad 5) rfl dX3_passOneMinute_15 ?_
    refine j_aload_n C dX3_passOneMinute_16 2 rfl ?_
    refine j_get C kin3 rfl 0 rfl 1 (by decide) kw_76 rfl (v := .ref (ad 2)) rfl dX3_passOneMinute_17 ?_
    refine j_iload_n C dX3_passOneMinute_20 0 rfl ?_
    refine j_pureSN_i (r := 0) C (m_X4_twinOf_1 l G) 1 kw_168 (List.mem_of_getElem? (i := 6) rfl) kw_1 kw_167 (by decide +kernel) ⟨(Nat.le_of_ble_eq_true rfl), (Nat.le_of_ble_eq_true rfl)⟩ rfl rfl (Nat.le_of_ble_eq_true rfl) dX3_passOneMinute_21 ⟨(Nat.le_of_ble_eq_true rfl), (Nat.le_of_ble_eq_true rfl)⟩ ?_
    refine j_aaldD C 6 rfl (vin_lit rfl) (y := ad 3) rfl dX3_passOneMinute_24 ?_
    refine j_callV_i (r := f_X3_passMinuteOf_r w1 x.2.1 w4 (x.2.2.2 1) w2 w3) (wc' := [oS (ad 0) (ad 1) (ad 2) (f_X3_passMinuteOf_g w1 x.2.1 w4 (x.2.2.2 1) w2 w3), aI G (ad 1) 7 x.2.1, oD (ad 5) (ad 6) (f_X3_passMinuteOf_v w1 x.2.1 w4 (x.2.2.2 1) w2 w3), aB G (ad 6) (f_X3_passMinuteOf_f w1 x.2.1 w4 (x.2.2.2 1) w2 w3), oD (ad 3) (ad 4) (f_X3_passMinuteOf_tv w1 x.2.1 w4 (x.2.2.2 1) w2 w3), aB G (ad 4) w3]) C (m_X3_passMinuteOf l G (ad 0) (ad 5) (ad 3) (ad 1) (ad 2) (ad 6) (ad 4) w1 x.2.1 w4 (x.2.2.2 1) w2 w3) rfl 0 rfl 2 (gV kw_169 kw_170 kw_342 kw_2 kw_171) (by decide +kernel) ⟨(Nat.le_of_ble_eq_true rfl), (Nat.le_of_ble_eq_true rfl)⟩ rfl rfl (Nat.le_of_ble_eq_true rfl) dX3_passOneMinute_25 ⟨(Nat.le_of_ble_eq_true rfl), (Nat.le_of_ble_eq_true rfl)⟩ [aD G (ad 2) 4 (fun k => some (ad (3 + 2 * k))), oD (ad 7) (ad 8) (x.2.2.1 2), aB G (ad 8) (x.2.2.2 2), oD (ad 9) (ad 10) (x.2.2.1 3), aB G (ad 10) (x.2.2.2 3)] [oS (ad 0) (ad 1) (ad 2) (f_X3_passMinuteOf_g w1 x.2.1 w4 (x.2.2.2 1) w2 w3), aI G (ad 1) 7 x.2.1, oD (ad 5) (ad 6) (f_X3_passMinuteOf_v w1 x.2.1 w4 (x.2.2.2 1) w2 w3), aB G (ad 6) (f_X3_passMinuteOf_f w1 x.2.1 w4 (x.2.2.2 1) w2 w3), oD (ad 3) (ad 4) (f_X3_passMinuteOf_tv w1 x.2.1 w4 (x.2.2.2 1) w2 w3), aB G (ad 4) w3, aD G (ad 2) 4 (fun k => some (ad (3 + 2 * k))), oD (ad 7) (ad 8) (x.2.2.1 2), aB G (ad 8) (x.2.2.2 2), oD (ad 9) (ad 10) (x.2.2.1 3), aB G (ad 10) (x.2.2.2 3)] (perm_idx [0, 1, 4, 5, 2, 3, 6, 7, 8, 9, 10] 11 rfl (by decide +kernel) rfl) rfl ?_
    generalize hzw6 : f_X3_passMinuteOf_r w1 x.2.1 w4 (x.2.2.2 1) w2 w3 = w6
    have hw6 : f_X3_passOneMinute_rq5 x = w6 := by subst hw0 hw1 hw2 hw3 hw4 hw5; subst hzw6; exact (f_X3_passOneMinute_rq5_eq x)
    generalize hzw7 : f_X3_passMinuteOf_g w1 x.2.1 w4 (x.2.2.2 1) w2 w3 = w7
    have hw7 : f_X3_passOneMinute_gq5 x = w7 := by subst hw0 hw1 hw2 hw3 hw4 hw5 hw6; subst hzw7; exact (f_X3_passOneMinute_gq5_eq x)
    generalize hzw8 : f_X3_passMinuteOf_v w1 x.2.1 w4 (x.2.2.2 1) w2 w3 = w8
    have hw8 : f_X3_passOneMinute_vq5 x = w8 := by subst hw0 hw1 hw2 hw3 hw4 hw5 hw6 hw7; subst hzw8; exact (f_X3_passOneMinute_vq5_eq x)
    generalize hzw9 : f_X3_passMinuteOf_f w1 x.2.1 w4 (x.2.2.2 1) w2 w3 = w9
    have hw9 : f_X3_passOneMinute_fq5 x = w9 := by subst hw0 hw1 hw2 hw3 hw4 hw5 hw6 hw7 hw8; subst hzw9; exact (f_X3_passOneMinute_fq5_eq x)
    generalize hzw10 : f_X3_passMinuteOf_tv w1 x.2.1 w4 (x.2.2.2 1) w2 w3 = w10
    have hw10 : f_X3_passOneMinute_tvq5 x = w10 := by subst hw0 hw1 hw2 hw3 hw4 hw5 hw6 hw7 hw8 hw9; subst hzw10; exact (f_X3_passOneMinute_tvq5_eq x)
    have K33_1 : WJ p l e (RM 4) s m args below meth c G A 3 0 0 Q ([oS (ad 0) (ad 1) (ad 2) w7, aI G (ad 1) 7 x.2.1, oD (ad 5) (ad 6) w8, aB G (ad 6) w9, oD (ad 3) (ad 4) w10, aB G (ad 4) w3, aD G (ad 2) 4 (fun k => some (ad (3 + 2 * k))), oD (ad 7) (ad 8) (x.2.2.1 2), aB G (ad 8) (x.2.2.2 2), oD (ad 9) (ad 10) (x.2.2.1 3), aB G (ad 10) (x.2.2.2 3)]) [(2, .int 1), (1, .int (f_X3_passOneMinute_x6 x)), (0, .ref (ad 0))] 33 [] := by
      generalize hw11 : f_X3_passOneMinute_x6 x = w11
      refine j_iinc (v := 2) C [(2, .int 2), (1, .int w11), (0, .ref (ad 0))] dX3_passOneMinute_33 (k := 0) rfl (by decide) (by decide) rfl ?_
      refine j_goto (tgt := 4) C dX3_passOneMinute_36 (by decide) ?_
      refine j_iload_n C dX3_passOneMinute_4 0 rfl ?_
      refine j_iconst (v := 4) C dX3_passOneMinute_5 (by decide) ?_
      refine j_icmp_ge (tgt := 39) C dX3_passOneMinute_6 (by decide) (fun h => absurd h (by decide)) (fun _ => ?_)
      refine j_aload_n C dX3_passOneMinute_9 2 rfl ?_
      refine j_aload_n C dX3_passOneMinute_10 2 rfl ?_
      refine j_get C kin3 rfl 0 rfl 1 (by decide) kw_76 rfl (v := .ref (ad 2)) rfl dX3_passOneMinute_11 ?_
      refine j_iload_n C dX3_passOneMinute_14 0 rfl ?_
      refine j_aaldD C 6 rfl (vin_lit rfl) (y := ad 7) rfl dX3_passOneMinute_15 ?_
      refine j_aload_n C dX3_passOneMinute_16 2 rfl ?_
      refine j_get C kin3 rfl 0 rfl 1 (by decide) kw_76 rfl (v := .ref (ad 2)) rfl dX3_passOneMinute_17 ?_
      refine j_iload_n C dX3_passOneMinute_20 0 rfl ?_
      refine j_pureSN_i (r := 3) C (m_X4_twinOf_2 l G) 1 kw_168 (List.mem_of_getElem? (i := 6) rfl) kw_1 kw_167 (by decide +kernel) ⟨(Nat.le_of_ble_eq_true rfl), (Nat.le_of_ble_eq_true rfl)⟩ rfl rfl (Nat.le_of_ble_eq_true rfl) dX3_passOneMinute_21 ⟨(Nat.le_of_ble_eq_true rfl), (Nat.le_of_ble_eq_true rfl)⟩ ?_
      refine j_aaldD C 6 rfl (vin_lit rfl) (y := ad 9) rfl dX3_passOneMinute_24 ?_
      refine j_callV_i (r := f_X3_passMinuteOf_r w7 x.2.1 (x.2.2.1 2) (x.2.2.2 2) (x.2.2.1 3) (x.2.2.2 3)) (wc' := [oS (ad 0) (ad 1) (ad 2) (f_X3_passMinuteOf_g w7 x.2.1 (x.2.2.1 2) (x.2.2.2 2) (x.2.2.1 3) (x.2.2.2 3)), aI G (ad 1) 7 x.2.1, oD (ad 7) (ad 8) (f_X3_passMinuteOf_v w7 x.2.1 (x.2.2.1 2) (x.2.2.2 2) (x.2.2.1 3) (x.2.2.2 3)), aB G (ad 8) (f_X3_passMinuteOf_f w7 x.2.1 (x.2.2.1 2) (x.2.2.2 2) (x.2.2.1 3) (x.2.2.2 3)), oD (ad 9) (ad 10) (f_X3_passMinuteOf_tv w7 x.2.1 (x.2.2.1 2) (x.2.2.2 2) (x.2.2.1 3) (x.2.2.2 3)), aB G (ad 10) (x.2.2.2 3)]) C (m_X3_passMinuteOf l G (ad 0) (ad 7) (ad 9) (ad 1) (ad 2) (ad 8) (ad 10) w7 x.2.1 (x.2.2.1 2) (x.2.2.2 2) (x.2.2.1 3) (x.2.2.2 3)) rfl 0 rfl 2 (gV kw_169 kw_170 kw_342 kw_2 kw_171) (by decide +kernel) ⟨(Nat.le_of_ble_eq_true rfl), (Nat.le_of_ble_eq_true rfl)⟩ rfl rfl (Nat.le_of_ble_eq_true rfl) dX3_passOneMinute_25 ⟨(Nat.le_of_ble_eq_true rfl), (Nat.le_of_ble_eq_true rfl)⟩ [oD (ad 5) (ad 6) w8, aB G (ad 6) w9, oD (ad 3) (ad 4) w10, aB G (ad 4) w3, aD G (ad 2) 4 (fun k => some (ad (3 + 2 * k)))] [oS (ad 0) (ad 1) (ad 2) (f_X3_passMinuteOf_g w7 x.2.1 (x.2.2.1 2) (x.2.2.2 2) (x.2.2.1 3) (x.2.2.2 3)), aI G (ad 1) 7 x.2.1, oD (ad 7) (ad 8) (f_X3_passMinuteOf_v w7 x.2.1 (x.2.2.1 2) (x.2.2.2 2) (x.2.2.1 3) (x.2.2.2 3)), aB G (ad 8) (f_X3_passMinuteOf_f w7 x.2.1 (x.2.2.1 2) (x.2.2.2 2) (x.2.2.1 3) (x.2.2.2 3)), oD (ad 9) (ad 10) (f_X3_passMinuteOf_tv w7 x.2.1 (x.2.2.1 2) (x.2.2.2 2) (x.2.2.1 3) (x.2.2.2 3)), aB G (ad 10) (x.2.2.2 3), oD (ad 5) (ad 6) w8, aB G (ad 6) w9, oD (ad 3) (ad 4) w10, aB G (ad 4) w3, aD G (ad 2) 4 (fun k => some (ad (3 + 2 * k)))] (perm_idx [0, 1, 7, 8, 9, 10, 2, 3, 4, 5, 6] 11 rfl (by decide +kernel) rfl) rfl ?_
      generalize hzw12 : f_X3_passMinuteOf_r w7 x.2.1 (x.2.2.1 2) (x.2.2.2 2) (x.2.2.1 3) (x.2.2.2 3) = w12
      have hw12 : f_X3_passOneMinute_rq8 x = w12 := by subst hw0 hw1 hw2 hw3 hw4 hw5 hw6 hw7 hw8 hw9 hw10 hw11; subst hzw12; exact (f_X3_passOneMinute_rq8_eq x)
      generalize hzw13 : f_X3_passMinuteOf_g w7 x.2.1 (x.2.2.1 2) (x.2.2.2 2) (x.2.2.1 3) (x.2.2.2 3) = w13
      have hw13 : f_X3_passOneMinute_gq8 x = w13 := by subst hw0 hw1 hw2 hw3 hw4 hw5 hw6 hw7 hw8 hw9 hw10 hw11 hw12; subst hzw13; exact (f_X3_passOneMinute_gq8_eq x)
      generalize hzw14 : f_X3_passMinuteOf_v w7 x.2.1 (x.2.2.1 2) (x.2.2.2 2) (x.2.2.1 3) (x.2.2.2 3) = w14
      have hw14 : f_X3_passOneMinute_vq8 x = w14 := by subst hw0 hw1 hw2 hw3 hw4 hw5 hw6 hw7 hw8 hw9 hw10 hw11 hw12 hw13; subst hzw14; exact (f_X3_passOneMinute_vq8_eq x)
      generalize hzw15 : f_X3_passMinuteOf_f w7 x.2.1 (x.2.2.1 2) (x.2.2.2 2) (x.2.2.1 3) (x.2.2.2 3) = w15
      have hw15 : f_X3_passOneMinute_fq8 x = w15 := by subst hw0 hw1 hw2 hw3 hw4 hw5 hw6 hw7 hw8 hw9 hw10 hw11 hw12 hw13 hw14; subst hzw15; exact (f_X3_passOneMinute_fq8_eq x)
      generalize hzw16 : f_X3_passMinuteOf_tv w7 x.2.1 (x.2.2.1 2) (x.2.2.2 2) (x.2.2.1 3) (x.2.2.2 3) = w16
      have hw16 : f_X3_passOneMinute_tvq8 x = w16 := by subst hw0 hw1 hw2 hw3 hw4 hw5 hw6 hw7 hw8 hw9 hw10 hw11 hw12 hw13 hw14 hw15; subst hzw16; exact (f_X3_passOneMinute_tvq8_eq x)
      have K33_2 : WJ p l e (RM 4) s m args below meth c G A 3 0 0 Q ([oS (ad 0) (ad 1) (ad 2) w13, aI G (ad 1) 7 x.2.1, oD (ad 7) (ad 8) w14, aB G (ad 8) w15, oD (ad 9) (ad 10) w16, aB G (ad 10) (x.2.2.2 3), oD (ad 5) (ad 6) w8, aB G (ad 6) w9, oD (ad 3) (ad 4) w10, aB G (ad 4) w3, aD G (ad 2) 4 (fun k => some (ad (3 + 2 * k)))]) [(2, .int 2), (1, .int (f_X3_passOneMinute_x9 x)), (0, .ref (ad 0))] 33 [] := by
        generalize hw17 : f_X3_passOneMinute_x9 x = w17
        refine j_iinc (v := 3) C [(2, .int 3), (1, .int w17), (0, .ref (ad 0))] dX3_passOneMinute_33 (k := 0) rfl (by decide) (by decide) rfl ?_
        refine j_goto (tgt := 4) C dX3_passOneMinute_36 (by decide) ?_
        refine j_iload_n C dX3_passOneMinute_4 0 rfl ?_
        refine j_iconst (v := 4) C dX3_passOneMinute_5 (by decide) ?_
        refine j_icmp_ge (tgt := 39) C dX3_passOneMinute_6 (by decide) (fun h => absurd h (by decide)) (fun _ => ?_)
        refine j_aload_n C dX3_passOneMinute_9 2 rfl ?_
        refine j_aload_n C dX3_passOneMinute_10 2 rfl ?_
        refine j_get C kin3 rfl 0 rfl 1 (by decide) kw_76 rfl (v := .ref (ad 2)) rfl dX3_passOneMinute_11 ?_
        refine j_iload_n C dX3_passOneMinute_14 0 rfl ?_
        refine j_aaldD C 10 rfl (vin_lit rfl) (y := ad 9) rfl dX3_passOneMinute_15 ?_
        refine j_aload_n C dX3_passOneMinute_16 2 rfl ?_
        refine j_get C kin3 rfl 0 rfl 1 (by decide) kw_76 rfl (v := .ref (ad 2)) rfl dX3_passOneMinute_17 ?_
        refine j_iload_n C dX3_passOneMinute_20 0 rfl ?_
        refine j_pureSN_i (r := 2) C (m_X4_twinOf_3 l G) 1 kw_168 (List.mem_of_getElem? (i := 6) rfl) kw_1 kw_167 (by decide +kernel) ⟨(Nat.le_of_ble_eq_true rfl), (Nat.le_of_ble_eq_true rfl)⟩ rfl rfl (Nat.le_of_ble_eq_true rfl) dX3_passOneMinute_21 ⟨(Nat.le_of_ble_eq_true rfl), (Nat.le_of_ble_eq_true rfl)⟩ ?_
        refine j_aaldD C 10 rfl (vin_lit rfl) (y := ad 7) rfl dX3_passOneMinute_24 ?_
        refine j_callV_i (r := f_X3_passMinuteOf_r w13 x.2.1 w16 (x.2.2.2 3) w14 w15) (wc' := [oS (ad 0) (ad 1) (ad 2) (f_X3_passMinuteOf_g w13 x.2.1 w16 (x.2.2.2 3) w14 w15), aI G (ad 1) 7 x.2.1, oD (ad 9) (ad 10) (f_X3_passMinuteOf_v w13 x.2.1 w16 (x.2.2.2 3) w14 w15), aB G (ad 10) (f_X3_passMinuteOf_f w13 x.2.1 w16 (x.2.2.2 3) w14 w15), oD (ad 7) (ad 8) (f_X3_passMinuteOf_tv w13 x.2.1 w16 (x.2.2.2 3) w14 w15), aB G (ad 8) w15]) C (m_X3_passMinuteOf l G (ad 0) (ad 9) (ad 7) (ad 1) (ad 2) (ad 10) (ad 8) w13 x.2.1 w16 (x.2.2.2 3) w14 w15) rfl 0 rfl 2 (gV kw_169 kw_170 kw_342 kw_2 kw_171) (by decide +kernel) ⟨(Nat.le_of_ble_eq_true rfl), (Nat.le_of_ble_eq_true rfl)⟩ rfl rfl (Nat.le_of_ble_eq_true rfl) dX3_passOneMinute_25 ⟨(Nat.le_of_ble_eq_true rfl), (Nat.le_of_ble_eq_true rfl)⟩ [oD (ad 5) (ad 6) w8, aB G (ad 6) w9, oD (ad 3) (ad 4) w10, aB G (ad 4) w3, aD G (ad 2) 4 (fun k => some (ad (3 + 2 * k)))] [oS (ad 0) (ad 1) (ad 2) (f_X3_passMinuteOf_g w13 x.2.1 w16 (x.2.2.2 3) w14 w15), aI G (ad 1) 7 x.2.1, oD (ad 9) (ad 10) (f_X3_passMinuteOf_v w13 x.2.1 w16 (x.2.2.2 3) w14 w15), aB G (ad 10) (f_X3_passMinuteOf_f w13 x.2.1 w16 (x.2.2.2 3) w14 w15), oD (ad 7) (ad 8) (f_X3_passMinuteOf_tv w13 x.2.1 w16 (x.2.2.2 3) w14 w15), aB G (ad 8) w15, oD (ad 5) (ad 6) w8, aB G (ad 6) w9, oD (ad 3) (ad 4) w10, aB G (ad 4) w3, aD G (ad 2) 4 (fun k => some (ad (3 + 2 * k)))] (perm_idx [0, 1, 4, 5, 2, 3, 6, 7, 8, 9, 10] 11 rfl (by decide +kernel) rfl) rfl ?_
        generalize hzw18 : f_X3_passMinuteOf_r w13 x.2.1 w16 (x.2.2.2 3) w14 w15 = w18
        have hw18 : f_X3_passOneMinute_rq11 x = w18 := by subst hw0 hw1 hw2 hw3 hw4 hw5 hw6 hw7 hw8 hw9 hw10 hw11 hw12 hw13 hw14 hw15 hw16 hw17; subst hzw18; exact (f_X3_passOneMinute_rq11_eq x)
        generalize hzw19 : f_X3_passMinuteOf_g w13 x.2.1 w16 (x.2.2.2 3) w14 w15 = w19
        have hw19 : f_X3_passOneMinute_gq11 x = w19 := by subst hw0 hw1 hw2 hw3 hw4 hw5 hw6 hw7 hw8 hw9 hw10 hw11 hw12 hw13 hw14 hw15 hw16 hw17 hw18; subst hzw19; exact (f_X3_passOneMinute_gq11_eq x)
        generalize hzw20 : f_X3_passMinuteOf_v w13 x.2.1 w16 (x.2.2.2 3) w14 w15 = w20
        have hw20 : f_X3_passOneMinute_vq11 x = w20 := by subst hw0 hw1 hw2 hw3 hw4 hw5 hw6 hw7 hw8 hw9 hw10 hw11 hw12 hw13 hw14 hw15 hw16 hw17 hw18 hw19; subst hzw20; exact (f_X3_passOneMinute_vq11_eq x)
        generalize hzw21 : f_X3_passMinuteOf_f w13 x.2.1 w16 (x.2.2.2 3) w14 w15 = w21
        have hw21 : f_X3_passOneMinute_fq11 x = w21 := by subst hw0 hw1 hw2 hw3 hw4 hw5 hw6 hw7 hw8 hw9 hw10 hw11 hw12 hw13 hw14 hw15 hw16 hw17 hw18 hw19 hw20; subst hzw21; exact (f_X3_passOneMinute_fq11_eq x)
        generalize hzw22 : f_X3_passMinuteOf_tv w13 x.2.1 w16 (x.2.2.2 3) w14 w15 = w22
        have hw22 : f_X3_passOneMinute_tvq11 x = w22 := by subst hw0 hw1 hw2 hw3 hw4 hw5 hw6 hw7 hw8 hw9 hw10 hw11 hw12 hw13 hw14 hw15 hw16 hw17 hw18 hw19 hw20 hw21; subst hzw22; exact (f_X3_passOneMinute_tvq11_eq x)
        have K33_3 : WJ p l e (RM 4) s m args below meth c G A 3 0 0 Q ([oS (ad 0) (ad 1) (ad 2) w19, aI G (ad 1) 7 x.2.1, oD (ad 9) (ad 10) w20, aB G (ad 10) w21, oD (ad 7) (ad 8) w22, aB G (ad 8) w15, oD (ad 5) (ad 6) w8, aB G (ad 6) w9, oD (ad 3) (ad 4) w10, aB G (ad 4) w3, aD G (ad 2) 4 (fun k => some (ad (3 + 2 * k)))]) [(2, .int 3), (1, .int (f_X3_passOneMinute_x12 x)), (0, .ref (ad 0))] 33 [] := by
          generalize hw23 : f_X3_passOneMinute_x12 x = w23
          refine j_iinc (v := 4) C [(2, .int 4), (1, .int w23), (0, .ref (ad 0))] dX3_passOneMinute_33 (k := 0) rfl (by decide) (by decide) rfl ?_
          refine j_goto (tgt := 4) C dX3_passOneMinute_36 (by decide) ?_
          refine j_iload_n C dX3_passOneMinute_4 0 rfl ?_
          refine j_iconst (v := 4) C dX3_passOneMinute_5 (by decide) ?_
          refine j_icmp_ge (tgt := 39) C dX3_passOneMinute_6 (by decide) (fun _ => ?_) (fun h => absurd h (by decide))
          refine j_aload_n C dX3_passOneMinute_39 2 rfl ?_
          refine j_dup C dX3_passOneMinute_40 rfl ?_
          refine j_get C kin3 rfl 0 rfl 2 (by decide) kw_78 rfl (v := .int (w19 2)) rfl dX3_passOneMinute_41 ?_
          refine j_iconst (v := 1) C dX3_passOneMinute_44 (by decide) ?_
          refine j_iadd C dX3_passOneMinute_45 rfl ?_
          generalize hw24 : (w19 2) + 1 = w24
          refine j_put C kin3 rfl 0 rfl 2 (by decide) kw_78 rfl tyX3 tyX3_ok nmX3 rfl rfl rfl (Nat.le_of_ble_eq_true rfl) ([oS (ad 0) (ad 1) (ad 2) (upd w19 2 w24), aI G (ad 1) 7 x.2.1, oD (ad 9) (ad 10) w20, aB G (ad 10) w21, oD (ad 7) (ad 8) w22, aB G (ad 8) w15, oD (ad 5) (ad 6) w8, aB G (ad 6) w9, oD (ad 3) (ad 4) w10, aB G (ad 4) w3, aD G (ad 2) 4 (fun k => some (ad (3 + 2 * k)))]) rfl dX3_passOneMinute_46 ?_
          refine j_iload_n C dX3_passOneMinute_49 1 rfl ?_
          refine j_perm ([oS (ad 0) (ad 1) (ad 2) (upd w19 2 w24), aI G (ad 1) 7 x.2.1, aD G (ad 2) 4 (fun k => some (ad (3 + 2 * k))), oD (ad 3) (ad 4) w10, aB G (ad 4) w3, oD (ad 5) (ad 6) w8, aB G (ad 6) w9, oD (ad 7) (ad 8) w22, aB G (ad 8) w15, oD (ad 9) (ad 10) w20, aB G (ad 10) w21]) (perm_idx [0, 1, 10, 8, 9, 6, 7, 4, 5, 2, 3] 11 rfl (by decide +kernel) rfl) ?_
          subst hQ; subst hw0 hw1 hw2 hw3 hw4 hw5 hw6 hw7 hw8 hw9 hw10 hw11 hw12 hw13 hw14 hw15 hw16 hw17 hw18 hw19 hw20 hw21 hw22 hw23 hw24; exact j_zret C hr hk (nar_01 (by rw [f_X3_passOneMinute_x12_eq, f_X3_passOneMinute_x9_eq, f_X3_passOneMinute_x6_eq, f_X3_passOneMinute_x3_eq]; (repeat' split) <;> decide)) ((show f_X3_passOneMinute_r x = (f_X3_passOneMinute_x12 x) from (f_X3_passOneMinute_r_eq x)).symm) (by rw [show f_X3_passOneMinute_g x = upd (f_X3_passOneMinute_gq11 x) 2 (((f_X3_passOneMinute_gq11 x) 2) + 1) from (f_X3_passOneMinute_g_eq x), show f_X3_passOneMinute_v0 x = (f_X3_passOneMinute_tvq5 x) from (f_X3_passOneMinute_v0_eq x), show f_X3_passOneMinute_f0 x = (f_X3_passOneMinute_fq2 x) from (f_X3_passOneMinute_f0_eq x), show f_X3_passOneMinute_v1 x = (f_X3_passOneMinute_vq5 x) from (f_X3_passOneMinute_v1_eq x), show f_X3_passOneMinute_f1 x = (f_X3_passOneMinute_fq5 x) from (f_X3_passOneMinute_f1_eq x), show f_X3_passOneMinute_v2 x = (f_X3_passOneMinute_tvq11 x) from (f_X3_passOneMinute_v2_eq x), show f_X3_passOneMinute_f2 x = (f_X3_passOneMinute_fq8 x) from (f_X3_passOneMinute_f2_eq x), show f_X3_passOneMinute_v3 x = (f_X3_passOneMinute_vq11 x) from (f_X3_passOneMinute_v3_eq x), show f_X3_passOneMinute_f3 x = (f_X3_passOneMinute_fq11 x) from (f_X3_passOneMinute_f3_eq x)]; rfl) dX3_passOneMinute_50
        refine j_if_eq (tgt := 33) C dX3_passOneMinute_28 (by decide) (fun c28_4 => ?_) (fun c28_4 => ?_)
        · subst hw0 hw1 hw2 hw3 hw4 hw5 hw6 hw7 hw8 hw9 hw10 hw11 hw12 hw13 hw14 hw15 hw16 hw17 hw18 hw19 hw20 hw21 hw22; exact j_eq rfl (by rw [show f_X3_passOneMinute_x12 x = (f_X3_passOneMinute_x9 x) from ((f_X3_passOneMinute_x12_eq x).trans (if_pos c28_4))]) rfl K33_3
        · refine j_iconst (v := 1) C dX3_passOneMinute_31 (by decide) ?_
          refine j_istore_n C [(1, .int 1), (2, .int 3), (0, .ref (ad 0))] dX3_passOneMinute_32 (by decide) rfl ?_
          refine j_lv [1, 0, 2] [(2, .int 3), (1, .int 1), (0, .ref (ad 0))] rfl ?_
          subst hw0 hw1 hw2 hw3 hw4 hw5 hw6 hw7 hw8 hw9 hw10 hw11 hw12 hw13 hw14 hw15 hw16 hw17 hw18 hw19 hw20 hw21 hw22; exact j_eq rfl (by rw [show f_X3_passOneMinute_x12 x = 1 from ((f_X3_passOneMinute_x12_eq x).trans (if_neg c28_4))]) rfl K33_3
      refine j_if_eq (tgt := 33) C dX3_passOneMinute_28 (by decide) (fun c28_3 => ?_) (fun c28_3 => ?_)
      · subst hw0 hw1 hw2 hw3 hw4 hw5 hw6 hw7 hw8 hw9 hw10 hw11 hw12 hw13 hw14 hw15 hw16; exact j_eq rfl (by rw [show f_X3_passOneMinute_x9 x = (f_X3_passOneMinute_x6 x) from ((f_X3_passOneMinute_x9_eq x).trans (if_pos c28_3))]) rfl K33_2
      · refine j_iconst (v := 1) C dX3_passOneMinute_31 (by decide) ?_
        refine j_istore_n C [(1, .int 1), (2, .int 2), (0, .ref (ad 0))] dX3_passOneMinute_32 (by decide) rfl ?_
        refine j_lv [1, 0, 2] [(2, .int 2), (1, .int 1), (0, .ref (ad 0))] rfl ?_
        subst hw0 hw1 hw2 hw3 hw4 hw5 hw6 hw7 hw8 hw9 hw10 hw11 hw12 hw13 hw14 hw15 hw16; exact j_eq rfl (by rw [show f_X3_passOneMinute_x9 x = 1 from ((f_X3_passOneMinute_x9_eq x).trans (if_neg c28_3))]) rfl K33_2
    refine j_if_eq (tgt := 33) C dX3_passOneMinute_28 (by decide) (fun c28_2 => ?_) (fun c28_2 => ?_)
    · subst hw0 hw1 hw2 hw3 hw4 hw5 hw6 hw7 hw8 hw9 hw10; exact j_eq rfl (by rw [show f_X3_passOneMinute_x6 x = (f_X3_passOneMinute_x3 x) from ((f_X3_passOneMinute_x6_eq x).trans (if_pos c28_2))]) rfl K33_1
    · refine j_iconst (v := 1) C dX3_passOneMinute_31 (by decide) ?_
      refine j_istore_n C [(1, .int 1), (2, .int 1), (0, .ref (ad 0))] dX3_passOneMinute_32 (by decide) rfl ?_
      refine j_lv [1, 0, 2] [(2, .int 1), (1, .int 1), (0, .ref (ad 0))] rfl ?_
      subst hw0 hw1 hw2 hw3 hw4 hw5 hw6 hw7 hw8 hw9 hw10; exact j_eq rfl (by rw [show f_X3_passOneMinute_x6 x = 1 from ((f_X3_passOneMinute_x6_eq x).trans (if_neg c28_2))]) rfl K33_1
  refine j_if_eq (tgt := 33) C dX3_passOneMinute_28 (by decide) (fun c28 => ?_) (fun c28 => ?_)
  · subst hw0 hw1 hw2 hw3 hw4; exact j_eq rfl (by rw [show f_X3_passOneMinute_x3 x = 0 from ((f_X3_passOneMinute_x3_eq x).trans (if_pos c28))]) rfl K33
  · refine j_iconst (v := 1) C dX3_passOneMinute_31 (by decide) ?_
    refine j_istore_n C [(1, .int 1), (2, .int 0), (0, .ref (ad 0))] dX3_passOneMinute_32 (by decide) rfl ?_
    refine j_lv [1, 0, 2] [(2, .int 0), (1, .int 1), (0, .ref (ad 0))] rfl ?_
    subst hw0 hw1 hw2 hw3 hw4; exact j_eq rfl (by rw [show f_X3_passOneMinute_x3 x = 1 from ((f_X3_passOneMinute_x3_eq x).trans (if_neg c28))]) rfl K33
/-- a minute of a station -/
noncomputable def passOne (x : StV) : StV := (f_X3_passOneMinute_g x, x.2.1, pick4 (f_X3_passOneMinute_v0 x) (f_X3_passOneMinute_v1 x) (f_X3_passOneMinute_v2 x) (f_X3_passOneMinute_v3 x), pick4 (f_X3_passOneMinute_f0 x) (f_X3_passOneMinute_f1 x) (f_X3_passOneMinute_f2 x) (f_X3_passOneMinute_f3 x))
noncomputable def passOneR (x : StV) : Int32 := f_X3_passOneMinute_r x
theorem m_passOne (l : Launch) (G : GG) (ad : Nat → Nat) (x : StV) : CtI l yX3_passOneMinute cX3_passOneMinute 3 (some .boolean) (RM 4) G [.ref (ad 0)] (cSt G ad x) (passOneR x) (cSt G ad (passOne x)) := m_X3_passOneMinute l G ad x
noncomputable def passN (x : StV) : Nat → StV
  | 0 => x
  | n + 1 => passOne (passN x n)
noncomputable def f_X3_passMinutes_r (x : StV) (k : Int32) : Int32 := if f_X4_arePassable_r k = 0 then -2 else (passN x k.toNatClampNeg).1 2
noncomputable def f_X3_passMinutes_x (x : StV) (k : Int32) : StV := if f_X4_arePassable_r k = 0 then x else passN x k.toNatClampNeg
set_option maxRecDepth 100000 in
set_option maxHeartbeats 4000000 in
theorem m_X3_passMinutes (l : Launch) (G : GG) (ad : Nat → Nat) (x : StV) (k : Int32)  : CtI l yX3_passMinutes cX3_passMinutes 3 (some .int) (RM 5) G [.ref (ad 0), .int k] (cSt G ad x) (f_X3_passMinutes_r x k) (cSt G ad (f_X3_passMinutes_x x k)) := by
  refine ct_I RX3 [(0, .ref (ad 0)), (1, .int k)] rfl (by decide +kernel) (Nat.le_of_ble_eq_true rfl) rfl ?_
  intro p e s m args below meth c A C hr hk hnm
  generalize hQ : (MQ below (PostI G A (f_X3_passMinutes_r x k) (cSt G ad (f_X3_passMinutes_x x k))) args s (RM 5).cells (RM 5).slots A) = Q
  refine j_w (fl [cSt G ad x]) (fl_one _).symm ?_
  refine j_iload_n C dX3_passMinutes_0 1 rfl ?_
  refine j_pureSN_i (r := f_X4_arePassable_r k) C (m_X4_arePassable l G k) 1 kw_162 (List.mem_of_getElem? (i := 5) rfl) kw_1 kw_161 (by decide +kernel) ⟨(Nat.le_of_ble_eq_true rfl), (Nat.le_of_ble_eq_true rfl)⟩ rfl rfl (Nat.le_of_ble_eq_true rfl) dX3_passMinutes_1 ⟨(Nat.le_of_ble_eq_true rfl), (Nat.le_of_ble_eq_true rfl)⟩ ?_
  refine j_if_ne (tgt := 10) C dX3_passMinutes_4 (by decide) (fun c4 => ?_) (fun c4 => ?_)
  · refine j_iconst (v := 0) C dX3_passMinutes_10 (by decide) ?_
    refine j_istore_n C [(2, .int 0), (0, .ref (ad 0)), (1, .int k)] dX3_passMinutes_11 (by decide) rfl ?_
    have L2 : ∀ (n i : Nat), i + n = k.toNatClampNeg → WJ p l e (RM 5) s m args below meth c G A 3 0 0 Q (fl [cSt G ad (passN x i)]) [(2, .int (nI i)), (0, .ref (ad 0)), (1, .int k)] 12 [] := by
      intro n
      induction n with
      | zero =>
        intro i hIN
        have hN : i = k.toNatClampNeg := by omega
        subst hN
        refine j_iload_n C dX3_passMinutes_12 0 rfl ?_
        refine j_iload_n C dX3_passMinutes_13 2 rfl ?_
        refine j_icmp_ge (tgt := 28) C dX3_passMinutes_14 (by decide) (fun c14 => ?_) (fun h => absurd (le_cl k (cl_31 k)) h)
        refine j_aload_n C dX3_passMinutes_28 1 rfl ?_
        refine j_w (fl [[oS (ad 0) (ad 1) (ad 2) ((passN x k.toNatClampNeg).1)], [aI G (ad 1) 7 ((passN x k.toNatClampNeg).2.1)], [aD G (ad 2) 4 (fun k => some (ad (3 + 2 * k)))], cDrs G ad (passN x k.toNatClampNeg).2.2.1 (passN x k.toNatClampNeg).2.2.2]) rfl ?_
        refine j_get C kin3 rfl 0 rfl 2 (by decide) kw_78 rfl (v := .int (((passN x k.toNatClampNeg).1) 2)) rfl dX3_passMinutes_29 ?_
        refine j_w (fl [cSt G ad (passN x k.toNatClampNeg)]) rfl ?_
        refine j_w (cSt G ad (passN x k.toNatClampNeg)) (fl_one _) ?_
        subst hQ; exact j_iret C hr hk (show ((passN x k.toNatClampNeg).1) 2 = (f_X3_passMinutes_r x k) from (if_neg c4).symm) (by rw [show (f_X3_passMinutes_x x k) = (passN x k.toNatClampNeg) from (if_neg c4)]) dX3_passMinutes_32
      | succ n ih =>
        intro i hIN
        have hlt : i < k.toNatClampNeg := by omega
        refine j_iload_n C dX3_passMinutes_12 0 rfl ?_
        refine j_iload_n C dX3_passMinutes_13 2 rfl ?_
        refine j_icmp_ge (tgt := 28) C dX3_passMinutes_14 (by decide) (fun h => absurd h (nle_cl hlt)) (fun c14 => ?_)
        refine j_aload_n C dX3_passMinutes_17 1 rfl ?_
        refine j_callV_i (r := passOneR (passN x i)) (wc' := cSt G ad (passOne (passN x i))) C (m_passOne l G ad (passN x i)) rfl 0 rfl 0 (gV kw_163 kw_164 kw_165 kw_2 kw_166) (by decide +kernel) ⟨(Nat.le_of_ble_eq_true rfl), (Nat.le_of_ble_eq_true rfl)⟩ rfl rfl (Nat.le_of_ble_eq_true rfl) dX3_passMinutes_18 ⟨(Nat.le_of_ble_eq_true rfl), (Nat.le_of_ble_eq_true rfl)⟩ (fl []) (fl [cSt G ad (passOne (passN x i))]) (bperm (bs' := [cSt G ad (passN x i)]) [0] 1 rfl (by decide +kernel) rfl) rfl ?_
        refine j_pop C dX3_passMinutes_21 rfl ?_
        refine j_iinc (v := nI (i + 1)) C [(2, .int (nI (i + 1))), (0, .ref (ad 0)), (1, .int k)] dX3_passMinutes_22 (k := 0) rfl (nI_1 i) (by decide) rfl ?_
        refine j_goto (tgt := 12) C dX3_passMinutes_25 (by decide) ?_
        exact j_eq (by rw [show (passN x (i + 1)) = passOne (passN x i) from rfl]) rfl rfl (ih (i + 1) (by omega))
    exact j_eq (by rw [show (passN x 0) = x from rfl]) (by rw [show nI 0 = 0 from rfl]) rfl (L2 k.toNatClampNeg 0 (by omega))
  · refine j_bipush (v := (-2)) C dX3_passMinutes_7 (by decide) ?_
    refine j_w (cSt G ad x) (fl_one _) ?_
    subst hQ; exact j_iret C hr hk (show (-2) = (f_X3_passMinutes_r x k) from (if_pos c4).symm) (by rw [show (f_X3_passMinutes_x x k) = x from (if_pos c4)]) dX3_passMinutes_9
