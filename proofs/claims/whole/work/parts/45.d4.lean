/-! ===== the class: Machine, second row ===== -/
theorem c_X_computeWithNumber {G : iG} {F : Nat} {C M : Nat → Nat → Int32} {i : Nat} (hi : i < 8) {w : Int32} : MI G m_X_computeWithNumber 2 [vR (tk i), vI w] (HW F C M) (fun x h' => x = (cnC C i w).1 ∧ h' = HW F (cnC C i w).2 M) := by
  refine Mt.of' (Ls := [some (vR (tk i)), some (vI w), none, none, none]) (by decide) (by simp [ct]) (Nat.le_of_ble_eq_true rfl) rfl ?_
  obtain ⟨f, hf⟩ : ∃ f, f = bf w 12 3 := ⟨_, rfl⟩
  have hf8 : f < 8 := by rw [hf]; exact bf_lt _ _ 3
  obtain ⟨g, hg⟩ : ∃ g, g = bf w 25 7 := ⟨_, rfl⟩
  have gl : g < 128 := by rw [hg]; exact bf_lt _ _ 7
  have eq : cnC C i w = cnF C i w f g := by rw [hf, hg]; rfl
  refine E_iload_n d_X_computeWithNumber_0 rfl ?_
  refine E_S1i d_X_computeWithNumber_1 w_X_60 (by decide) (Nat.le_of_ble_eq_true rfl) (c_X_selector) ?_
  rintro _ _ ⟨rfl, rfl⟩
  rw [← hf]
  refine E_istore_n d_X_computeWithNumber_4 (by decide) ?_
  refine E_aload_n d_X_computeWithNumber_5 rfl rfl ?_
  refine E_iload_n d_X_computeWithNumber_6 rfl ?_
  refine E_S2i d_X_computeWithNumber_7 w_X_75 (by decide) (Nat.le_of_ble_eq_true rfl) (c_X_first hi) ?_
  rintro _ _ ⟨rfl, rfl⟩
  refine E_istore_n d_X_computeWithNumber_10 (by decide) ?_
  refine E_iload_n d_X_computeWithNumber_11 rfl ?_
  refine E_S1i d_X_computeWithNumber_12 w_X_78 (by decide) (Nat.le_of_ble_eq_true rfl) (c_X_shortNumber) ?_
  rintro _ _ ⟨rfl, rfl⟩
  refine E_istore d_X_computeWithNumber_15 (by decide) ?_
  refine E_iload_n d_X_computeWithNumber_17 rfl ?_
  refine E_iconst (v := 5) d_X_computeWithNumber_18 (by decide) ?_
  refine E_icmp_ne (tgt := 44) d_X_computeWithNumber_19 (by decide) (fun c19 => ?_) (fun c19 => ?_)
  · have o19 : ¬ f = 5 := fun q => c19 (by rw [q]; rfl)
    refine E_iload_n d_X_computeWithNumber_44 rfl ?_
    refine E_iconst (v := 1) d_X_computeWithNumber_45 (by decide) ?_
    refine E_icmp_eq (tgt := 54) d_X_computeWithNumber_46 (by decide) (fun c46 => ?_) (fun c46 => ?_)
    · have o46 : f = 1 := (nI_eq (b := 1) (by omega) (by decide)).mp c46
      refine E_iload_n d_X_computeWithNumber_54 rfl ?_
      refine E_S1i d_X_computeWithNumber_55 w_X_109 (by decide) (Nat.le_of_ble_eq_true rfl) (c_X_variant) ?_
      rintro _ _ ⟨rfl, rfl⟩
      rw [← hg]
      refine E_if_eq (tgt := 63) d_X_computeWithNumber_58 (by decide) (fun c58 => ?_) (fun c58 => ?_)
      · have o58 : g = 0 := (nI_eq (b := 0) (by omega) (by decide)).mp c58
        refine E_aload_n d_X_computeWithNumber_63 rfl rfl ?_
        refine E_iload_n d_X_computeWithNumber_64 rfl ?_
        refine E_iload_n d_X_computeWithNumber_65 rfl ?_
        refine E_iload_n d_X_computeWithNumber_66 rfl ?_
        refine E_iload d_X_computeWithNumber_67 rfl ?_
        refine E_S3i d_X_computeWithNumber_69 w_X_112 (by decide) (Nat.le_of_ble_eq_true rfl) (c_compute hf8) ?_
        rintro _ _ ⟨rfl, rfl⟩
        refine E_S3i d_X_computeWithNumber_72 w_X_31 (by decide) (Nat.le_of_ble_eq_true rfl) (c_X_setAndGo hi) ?_
        rintro _ _ ⟨rfl, rfl⟩
        exact E_ireturn d_X_computeWithNumber_75 (Or.inl rfl) rfl ⟨_, rfl, by rw [eq, cnF, if_neg (fun q => o19 q.1), if_neg (fun q => q.2 o58)], by rw [eq, cnF, if_neg (fun q => o19 q.1), if_neg (fun q => q.2 o58)]⟩
      · have o58 : ¬ g = 0 := fun q => c58 (by rw [q]; rfl)
        refine E_iconst (v := 2) d_X_computeWithNumber_61 (by decide) ?_
        exact E_ireturn d_X_computeWithNumber_62 (Or.inl rfl) rfl ⟨_, rfl, by rw [eq, cnF, if_neg (fun q => o19 q.1), if_pos ⟨Or.inl o46, o58⟩], by rw [eq, cnF, if_neg (fun q => o19 q.1), if_pos ⟨Or.inl o46, o58⟩]⟩
    · have o46 : ¬ f = 1 := fun q => c46 (by rw [q]; rfl)
      refine E_iload_n d_X_computeWithNumber_49 rfl ?_
      refine E_iconst (v := 5) d_X_computeWithNumber_50 (by decide) ?_
      refine E_icmp_ne (tgt := 63) d_X_computeWithNumber_51 (by decide) (fun c51 => ?_) (fun c51 => ?_)
      · have o51 : ¬ f = 5 := fun q => c51 (by rw [q]; rfl)
        refine E_aload_n d_X_computeWithNumber_63 rfl rfl ?_
        refine E_iload_n d_X_computeWithNumber_64 rfl ?_
        refine E_iload_n d_X_computeWithNumber_65 rfl ?_
        refine E_iload_n d_X_computeWithNumber_66 rfl ?_
        refine E_iload d_X_computeWithNumber_67 rfl ?_
        refine E_S3i d_X_computeWithNumber_69 w_X_112 (by decide) (Nat.le_of_ble_eq_true rfl) (c_compute hf8) ?_
        rintro _ _ ⟨rfl, rfl⟩
        refine E_S3i d_X_computeWithNumber_72 w_X_31 (by decide) (Nat.le_of_ble_eq_true rfl) (c_X_setAndGo hi) ?_
        rintro _ _ ⟨rfl, rfl⟩
        exact E_ireturn d_X_computeWithNumber_75 (Or.inl rfl) rfl ⟨_, rfl, by rw [eq, cnF, if_neg (fun q => o19 q.1), if_neg (fun q => by rcases q.1 with z | z; exact o46 z; exact o51 z)], by rw [eq, cnF, if_neg (fun q => o19 q.1), if_neg (fun q => by rcases q.1 with z | z; exact o46 z; exact o51 z)]⟩
      · have o51 : f = 5 := (nI_eq (b := 5) (by omega) (by decide)).mp c51
        refine E_iload_n d_X_computeWithNumber_54 rfl ?_
        refine E_S1i d_X_computeWithNumber_55 w_X_109 (by decide) (Nat.le_of_ble_eq_true rfl) (c_X_variant) ?_
        rintro _ _ ⟨rfl, rfl⟩
        rw [← hg]
        refine E_if_eq (tgt := 63) d_X_computeWithNumber_58 (by decide) (fun c58 => ?_) (fun c58 => ?_)
        · have o58 : g = 0 := (nI_eq (b := 0) (by omega) (by decide)).mp c58
          refine E_aload_n d_X_computeWithNumber_63 rfl rfl ?_
          refine E_iload_n d_X_computeWithNumber_64 rfl ?_
          refine E_iload_n d_X_computeWithNumber_65 rfl ?_
          refine E_iload_n d_X_computeWithNumber_66 rfl ?_
          refine E_iload d_X_computeWithNumber_67 rfl ?_
          refine E_S3i d_X_computeWithNumber_69 w_X_112 (by decide) (Nat.le_of_ble_eq_true rfl) (c_compute hf8) ?_
          rintro _ _ ⟨rfl, rfl⟩
          refine E_S3i d_X_computeWithNumber_72 w_X_31 (by decide) (Nat.le_of_ble_eq_true rfl) (c_X_setAndGo hi) ?_
          rintro _ _ ⟨rfl, rfl⟩
          exact E_ireturn d_X_computeWithNumber_75 (Or.inl rfl) rfl ⟨_, rfl, by rw [eq, cnF, if_neg (fun q => o19 q.1), if_neg (fun q => q.2 o58)], by rw [eq, cnF, if_neg (fun q => o19 q.1), if_neg (fun q => q.2 o58)]⟩
        · have o58 : ¬ g = 0 := fun q => c58 (by rw [q]; rfl)
          refine E_iconst (v := 2) d_X_computeWithNumber_61 (by decide) ?_
          exact E_ireturn d_X_computeWithNumber_62 (Or.inl rfl) rfl ⟨_, rfl, by rw [eq, cnF, if_neg (fun q => o19 q.1), if_pos ⟨Or.inr o51, o58⟩], by rw [eq, cnF, if_neg (fun q => o19 q.1), if_pos ⟨Or.inr o51, o58⟩]⟩
  · have o19 : f = 5 := (nI_eq (b := 5) (by omega) (by decide)).mp c19
    refine E_iload_n d_X_computeWithNumber_22 rfl ?_
    refine E_S1i d_X_computeWithNumber_23 w_X_109 (by decide) (Nat.le_of_ble_eq_true rfl) (c_X_variant) ?_
    rintro _ _ ⟨rfl, rfl⟩
    rw [← hg]
    refine E_bipush (v := 32) d_X_computeWithNumber_26 (by decide) ?_
    refine E_icmp_ne (tgt := 44) d_X_computeWithNumber_28 (by decide) (fun c28 => ?_) (fun c28 => ?_)
    · have o28 : ¬ g = 32 := fun q => c28 (by rw [q]; rfl)
      refine E_iload_n d_X_computeWithNumber_44 rfl ?_
      refine E_iconst (v := 1) d_X_computeWithNumber_45 (by decide) ?_
      refine E_icmp_eq (tgt := 54) d_X_computeWithNumber_46 (by decide) (fun c46 => ?_) (fun c46 => ?_)
      · have o46 : f = 1 := (nI_eq (b := 1) (by omega) (by decide)).mp c46
        refine E_iload_n d_X_computeWithNumber_54 rfl ?_
        refine E_S1i d_X_computeWithNumber_55 w_X_109 (by decide) (Nat.le_of_ble_eq_true rfl) (c_X_variant) ?_
        rintro _ _ ⟨rfl, rfl⟩
        rw [← hg]
        refine E_if_eq (tgt := 63) d_X_computeWithNumber_58 (by decide) (fun c58 => ?_) (fun c58 => ?_)
        · have o58 : g = 0 := (nI_eq (b := 0) (by omega) (by decide)).mp c58
          refine E_aload_n d_X_computeWithNumber_63 rfl rfl ?_
          refine E_iload_n d_X_computeWithNumber_64 rfl ?_
          refine E_iload_n d_X_computeWithNumber_65 rfl ?_
          refine E_iload_n d_X_computeWithNumber_66 rfl ?_
          refine E_iload d_X_computeWithNumber_67 rfl ?_
          refine E_S3i d_X_computeWithNumber_69 w_X_112 (by decide) (Nat.le_of_ble_eq_true rfl) (c_compute hf8) ?_
          rintro _ _ ⟨rfl, rfl⟩
          refine E_S3i d_X_computeWithNumber_72 w_X_31 (by decide) (Nat.le_of_ble_eq_true rfl) (c_X_setAndGo hi) ?_
          rintro _ _ ⟨rfl, rfl⟩
          exact E_ireturn d_X_computeWithNumber_75 (Or.inl rfl) rfl ⟨_, rfl, by rw [eq, cnF, if_neg (fun q => o28 q.2), if_neg (fun q => q.2 o58)], by rw [eq, cnF, if_neg (fun q => o28 q.2), if_neg (fun q => q.2 o58)]⟩
        · have o58 : ¬ g = 0 := fun q => c58 (by rw [q]; rfl)
          refine E_iconst (v := 2) d_X_computeWithNumber_61 (by decide) ?_
          exact E_ireturn d_X_computeWithNumber_62 (Or.inl rfl) rfl ⟨_, rfl, by rw [eq, cnF, if_neg (fun q => o28 q.2), if_pos ⟨Or.inl o46, o58⟩], by rw [eq, cnF, if_neg (fun q => o28 q.2), if_pos ⟨Or.inl o46, o58⟩]⟩
      · have o46 : ¬ f = 1 := fun q => c46 (by rw [q]; rfl)
        refine E_iload_n d_X_computeWithNumber_49 rfl ?_
        refine E_iconst (v := 5) d_X_computeWithNumber_50 (by decide) ?_
        refine E_icmp_ne (tgt := 63) d_X_computeWithNumber_51 (by decide) (fun c51 => ?_) (fun c51 => ?_)
        · have o51 : ¬ f = 5 := fun q => c51 (by rw [q]; rfl)
          refine E_aload_n d_X_computeWithNumber_63 rfl rfl ?_
          refine E_iload_n d_X_computeWithNumber_64 rfl ?_
          refine E_iload_n d_X_computeWithNumber_65 rfl ?_
          refine E_iload_n d_X_computeWithNumber_66 rfl ?_
          refine E_iload d_X_computeWithNumber_67 rfl ?_
          refine E_S3i d_X_computeWithNumber_69 w_X_112 (by decide) (Nat.le_of_ble_eq_true rfl) (c_compute hf8) ?_
          rintro _ _ ⟨rfl, rfl⟩
          refine E_S3i d_X_computeWithNumber_72 w_X_31 (by decide) (Nat.le_of_ble_eq_true rfl) (c_X_setAndGo hi) ?_
          rintro _ _ ⟨rfl, rfl⟩
          exact E_ireturn d_X_computeWithNumber_75 (Or.inl rfl) rfl ⟨_, rfl, by rw [eq, cnF, if_neg (fun q => o28 q.2), if_neg (fun q => by rcases q.1 with z | z; exact o46 z; exact o51 z)], by rw [eq, cnF, if_neg (fun q => o28 q.2), if_neg (fun q => by rcases q.1 with z | z; exact o46 z; exact o51 z)]⟩
        · have o51 : f = 5 := (nI_eq (b := 5) (by omega) (by decide)).mp c51
          refine E_iload_n d_X_computeWithNumber_54 rfl ?_
          refine E_S1i d_X_computeWithNumber_55 w_X_109 (by decide) (Nat.le_of_ble_eq_true rfl) (c_X_variant) ?_
          rintro _ _ ⟨rfl, rfl⟩
          rw [← hg]
          refine E_if_eq (tgt := 63) d_X_computeWithNumber_58 (by decide) (fun c58 => ?_) (fun c58 => ?_)
          · have o58 : g = 0 := (nI_eq (b := 0) (by omega) (by decide)).mp c58
            refine E_aload_n d_X_computeWithNumber_63 rfl rfl ?_
            refine E_iload_n d_X_computeWithNumber_64 rfl ?_
            refine E_iload_n d_X_computeWithNumber_65 rfl ?_
            refine E_iload_n d_X_computeWithNumber_66 rfl ?_
            refine E_iload d_X_computeWithNumber_67 rfl ?_
            refine E_S3i d_X_computeWithNumber_69 w_X_112 (by decide) (Nat.le_of_ble_eq_true rfl) (c_compute hf8) ?_
            rintro _ _ ⟨rfl, rfl⟩
            refine E_S3i d_X_computeWithNumber_72 w_X_31 (by decide) (Nat.le_of_ble_eq_true rfl) (c_X_setAndGo hi) ?_
            rintro _ _ ⟨rfl, rfl⟩
            exact E_ireturn d_X_computeWithNumber_75 (Or.inl rfl) rfl ⟨_, rfl, by rw [eq, cnF, if_neg (fun q => o28 q.2), if_neg (fun q => q.2 o58)], by rw [eq, cnF, if_neg (fun q => o28 q.2), if_neg (fun q => q.2 o58)]⟩
          · have o58 : ¬ g = 0 := fun q => c58 (by rw [q]; rfl)
            refine E_iconst (v := 2) d_X_computeWithNumber_61 (by decide) ?_
            exact E_ireturn d_X_computeWithNumber_62 (Or.inl rfl) rfl ⟨_, rfl, by rw [eq, cnF, if_neg (fun q => o28 q.2), if_pos ⟨Or.inr o51, o58⟩], by rw [eq, cnF, if_neg (fun q => o28 q.2), if_pos ⟨Or.inr o51, o58⟩]⟩
    · have o28 : g = 32 := (nI_eq (b := 32) (by omega) (by decide)).mp c28
      refine E_aload_n d_X_computeWithNumber_31 rfl rfl ?_
      refine E_iload_n d_X_computeWithNumber_32 rfl ?_
      refine E_iload_n d_X_computeWithNumber_33 rfl ?_
      refine E_iload d_X_computeWithNumber_34 rfl ?_
      refine E_bipush (v := 31) d_X_computeWithNumber_36 (by decide) ?_
      refine E_iand d_X_computeWithNumber_38 ?_
      refine E_ishr d_X_computeWithNumber_39 ?_
      refine E_S3i d_X_computeWithNumber_40 w_X_31 (by decide) (Nat.le_of_ble_eq_true rfl) (c_X_setAndGo hi) ?_
      rintro _ _ ⟨rfl, rfl⟩
      exact E_ireturn d_X_computeWithNumber_43 (Or.inl rfl) rfl ⟨_, rfl, by rw [eq, cnF, if_pos ⟨o19, o28⟩], by rw [eq, cnF, if_pos ⟨o19, o28⟩]⟩
theorem c_X_computeWithRegister {G : iG} {F : Nat} {C M : Nat → Nat → Int32} {i : Nat} (hi : i < 8) {w : Int32} : MI G m_X_computeWithRegister 2 [vR (tk i), vI w] (HW F C M) (fun x h' => x = (crC C i w).1 ∧ h' = HW F (crC C i w).2 M) := by
  refine Mt.of' (Ls := [some (vR (tk i)), some (vI w), none, none, none]) (by decide) (by simp [ct]) (Nat.le_of_ble_eq_true rfl) rfl ?_
  obtain ⟨f, hf⟩ : ∃ f, f = bf w 12 3 := ⟨_, rfl⟩
  have hf8 : f < 8 := by rw [hf]; exact bf_lt _ _ 3
  obtain ⟨g, hg⟩ : ∃ g, g = bf w 25 7 := ⟨_, rfl⟩
  have gl : g < 128 := by rw [hg]; exact bf_lt _ _ 7
  have eq : crC C i w = crF C i w f g := by rw [hf, hg]; rfl
  refine E_iload_n d_X_computeWithRegister_0 rfl ?_
  refine E_S1i d_X_computeWithRegister_1 w_X_60 (by decide) (Nat.le_of_ble_eq_true rfl) (c_X_selector) ?_
  rintro _ _ ⟨rfl, rfl⟩
  rw [← hf]
  refine E_istore_n d_X_computeWithRegister_4 (by decide) ?_
  refine E_aload_n d_X_computeWithRegister_5 rfl rfl ?_
  refine E_iload_n d_X_computeWithRegister_6 rfl ?_
  refine E_S2i d_X_computeWithRegister_7 w_X_75 (by decide) (Nat.le_of_ble_eq_true rfl) (c_X_first hi) ?_
  rintro _ _ ⟨rfl, rfl⟩
  refine E_istore_n d_X_computeWithRegister_10 (by decide) ?_
  refine E_aload_n d_X_computeWithRegister_11 rfl rfl ?_
  refine E_iload_n d_X_computeWithRegister_12 rfl ?_
  refine E_S2i d_X_computeWithRegister_13 w_X_81 (by decide) (Nat.le_of_ble_eq_true rfl) (c_X_second hi) ?_
  rintro _ _ ⟨rfl, rfl⟩
  refine E_istore d_X_computeWithRegister_16 (by decide) ?_
  refine E_iload_n d_X_computeWithRegister_18 rfl ?_
  refine E_S1i d_X_computeWithRegister_19 w_X_109 (by decide) (Nat.le_of_ble_eq_true rfl) (c_X_variant) ?_
  rintro _ _ ⟨rfl, rfl⟩
  rw [← hg]
  refine E_if_ne (tgt := 38) d_X_computeWithRegister_22 (by decide) (fun c22 => ?_) (fun c22 => ?_)
  · have o22 : ¬ g = 0 := fun q => c22 (by rw [q]; rfl)
    refine E_iload_n d_X_computeWithRegister_38 rfl ?_
    refine E_S1i d_X_computeWithRegister_39 w_X_109 (by decide) (Nat.le_of_ble_eq_true rfl) (c_X_variant) ?_
    rintro _ _ ⟨rfl, rfl⟩
    rw [← hg]
    refine E_bipush (v := 32) d_X_computeWithRegister_42 (by decide) ?_
    refine E_icmp_ne (tgt := 61) d_X_computeWithRegister_44 (by decide) (fun c44 => ?_) (fun c44 => ?_)
    · have o44 : ¬ g = 32 := fun q => c44 (by rw [q]; rfl)
      refine E_iload_n d_X_computeWithRegister_61 rfl ?_
      refine E_S1i d_X_computeWithRegister_62 w_X_109 (by decide) (Nat.le_of_ble_eq_true rfl) (c_X_variant) ?_
      rintro _ _ ⟨rfl, rfl⟩
      rw [← hg]
      refine E_bipush (v := 32) d_X_computeWithRegister_65 (by decide) ?_
      refine E_icmp_ne (tgt := 88) d_X_computeWithRegister_67 (by decide) (fun c67 => ?_) (fun c67 => ?_)
      · have o67 : ¬ g = 32 := fun q => c67 (by rw [q]; rfl)
        refine E_iconst (v := 2) d_X_computeWithRegister_88 (by decide) ?_
        exact E_ireturn d_X_computeWithRegister_89 (Or.inl rfl) rfl ⟨_, rfl, by rw [eq, crF, if_neg o22, if_neg (fun q => o44 q.1), if_neg (fun q => o67 q.1)], by rw [eq, crF, if_neg o22, if_neg (fun q => o44 q.1), if_neg (fun q => o67 q.1)]⟩
      · have o67 : g = 32 := (nI_eq (b := 32) (by omega) (by decide)).mp c67
        refine E_iload_n d_X_computeWithRegister_70 rfl ?_
        refine E_iconst (v := 5) d_X_computeWithRegister_71 (by decide) ?_
        refine E_icmp_ne (tgt := 88) d_X_computeWithRegister_72 (by decide) (fun c72 => ?_) (fun c72 => ?_)
        · have o72 : ¬ f = 5 := fun q => c72 (by rw [q]; rfl)
          refine E_iconst (v := 2) d_X_computeWithRegister_88 (by decide) ?_
          exact E_ireturn d_X_computeWithRegister_89 (Or.inl rfl) rfl ⟨_, rfl, by rw [eq, crF, if_neg o22, if_neg (fun q => o44 q.1), if_neg (fun q => o72 q.2)], by rw [eq, crF, if_neg o22, if_neg (fun q => o44 q.1), if_neg (fun q => o72 q.2)]⟩
        · have o72 : f = 5 := (nI_eq (b := 5) (by omega) (by decide)).mp c72
          refine E_aload_n d_X_computeWithRegister_75 rfl rfl ?_
          refine E_iload_n d_X_computeWithRegister_76 rfl ?_
          refine E_iload_n d_X_computeWithRegister_77 rfl ?_
          refine E_iload d_X_computeWithRegister_78 rfl ?_
          refine E_bipush (v := 31) d_X_computeWithRegister_80 (by decide) ?_
          refine E_iand d_X_computeWithRegister_82 ?_
          refine E_ishr d_X_computeWithRegister_83 ?_
          refine E_S3i d_X_computeWithRegister_84 w_X_31 (by decide) (Nat.le_of_ble_eq_true rfl) (c_X_setAndGo hi) ?_
          rintro _ _ ⟨rfl, rfl⟩
          exact E_ireturn d_X_computeWithRegister_87 (Or.inl rfl) rfl ⟨_, rfl, by rw [eq, crF, if_neg o22, if_neg (fun q => o44 q.1), if_pos ⟨o67, o72⟩], by rw [eq, crF, if_neg o22, if_neg (fun q => o44 q.1), if_pos ⟨o67, o72⟩]⟩
    · have o44 : g = 32 := (nI_eq (b := 32) (by omega) (by decide)).mp c44
      refine E_iload_n d_X_computeWithRegister_47 rfl ?_
      refine E_if_ne (tgt := 61) d_X_computeWithRegister_48 (by decide) (fun c48 => ?_) (fun c48 => ?_)
      · have o48 : ¬ f = 0 := fun q => c48 (by rw [q]; rfl)
        refine E_iload_n d_X_computeWithRegister_61 rfl ?_
        refine E_S1i d_X_computeWithRegister_62 w_X_109 (by decide) (Nat.le_of_ble_eq_true rfl) (c_X_variant) ?_
        rintro _ _ ⟨rfl, rfl⟩
        rw [← hg]
        refine E_bipush (v := 32) d_X_computeWithRegister_65 (by decide) ?_
        refine E_icmp_ne (tgt := 88) d_X_computeWithRegister_67 (by decide) (fun c67 => ?_) (fun c67 => ?_)
        · have o67 : ¬ g = 32 := fun q => c67 (by rw [q]; rfl)
          refine E_iconst (v := 2) d_X_computeWithRegister_88 (by decide) ?_
          exact E_ireturn d_X_computeWithRegister_89 (Or.inl rfl) rfl ⟨_, rfl, by rw [eq, crF, if_neg o22, if_neg (fun q => o48 q.2), if_neg (fun q => o67 q.1)], by rw [eq, crF, if_neg o22, if_neg (fun q => o48 q.2), if_neg (fun q => o67 q.1)]⟩
        · have o67 : g = 32 := (nI_eq (b := 32) (by omega) (by decide)).mp c67
          refine E_iload_n d_X_computeWithRegister_70 rfl ?_
          refine E_iconst (v := 5) d_X_computeWithRegister_71 (by decide) ?_
          refine E_icmp_ne (tgt := 88) d_X_computeWithRegister_72 (by decide) (fun c72 => ?_) (fun c72 => ?_)
          · have o72 : ¬ f = 5 := fun q => c72 (by rw [q]; rfl)
            refine E_iconst (v := 2) d_X_computeWithRegister_88 (by decide) ?_
            exact E_ireturn d_X_computeWithRegister_89 (Or.inl rfl) rfl ⟨_, rfl, by rw [eq, crF, if_neg o22, if_neg (fun q => o48 q.2), if_neg (fun q => o72 q.2)], by rw [eq, crF, if_neg o22, if_neg (fun q => o48 q.2), if_neg (fun q => o72 q.2)]⟩
          · have o72 : f = 5 := (nI_eq (b := 5) (by omega) (by decide)).mp c72
            refine E_aload_n d_X_computeWithRegister_75 rfl rfl ?_
            refine E_iload_n d_X_computeWithRegister_76 rfl ?_
            refine E_iload_n d_X_computeWithRegister_77 rfl ?_
            refine E_iload d_X_computeWithRegister_78 rfl ?_
            refine E_bipush (v := 31) d_X_computeWithRegister_80 (by decide) ?_
            refine E_iand d_X_computeWithRegister_82 ?_
            refine E_ishr d_X_computeWithRegister_83 ?_
            refine E_S3i d_X_computeWithRegister_84 w_X_31 (by decide) (Nat.le_of_ble_eq_true rfl) (c_X_setAndGo hi) ?_
            rintro _ _ ⟨rfl, rfl⟩
            exact E_ireturn d_X_computeWithRegister_87 (Or.inl rfl) rfl ⟨_, rfl, by rw [eq, crF, if_neg o22, if_neg (fun q => o48 q.2), if_pos ⟨o67, o72⟩], by rw [eq, crF, if_neg o22, if_neg (fun q => o48 q.2), if_pos ⟨o67, o72⟩]⟩
      · have o48 : f = 0 := (nI_eq (b := 0) (by omega) (by decide)).mp c48
        refine E_aload_n d_X_computeWithRegister_51 rfl rfl ?_
        refine E_iload_n d_X_computeWithRegister_52 rfl ?_
        refine E_iload_n d_X_computeWithRegister_53 rfl ?_
        refine E_iload d_X_computeWithRegister_54 rfl ?_
        refine E_isub d_X_computeWithRegister_56 ?_
        refine E_S3i d_X_computeWithRegister_57 w_X_31 (by decide) (Nat.le_of_ble_eq_true rfl) (c_X_setAndGo hi) ?_
        rintro _ _ ⟨rfl, rfl⟩
        exact E_ireturn d_X_computeWithRegister_60 (Or.inl rfl) rfl ⟨_, rfl, by rw [eq, crF, if_neg o22, if_pos ⟨o44, o48⟩], by rw [eq, crF, if_neg o22, if_pos ⟨o44, o48⟩]⟩
  · have o22 : g = 0 := (nI_eq (b := 0) (by omega) (by decide)).mp c22
    refine E_aload_n d_X_computeWithRegister_25 rfl rfl ?_
    refine E_iload_n d_X_computeWithRegister_26 rfl ?_
    refine E_iload_n d_X_computeWithRegister_27 rfl ?_
    refine E_iload_n d_X_computeWithRegister_28 rfl ?_
    refine E_iload d_X_computeWithRegister_29 rfl ?_
    refine E_S3i d_X_computeWithRegister_31 w_X_112 (by decide) (Nat.le_of_ble_eq_true rfl) (c_compute hf8) ?_
    rintro _ _ ⟨rfl, rfl⟩
    refine E_S3i d_X_computeWithRegister_34 w_X_31 (by decide) (Nat.le_of_ble_eq_true rfl) (c_X_setAndGo hi) ?_
    rintro _ _ ⟨rfl, rfl⟩
    exact E_ireturn d_X_computeWithRegister_37 (Or.inl rfl) rfl ⟨_, rfl, by rw [eq, crF, if_pos o22], by rw [eq, crF, if_pos o22]⟩
theorem md_X_execute {G : iG} {F : Nat} {C M : Nat → Nat → Int32} {Q : Option iV → iH → Prop} {i : Nat} (hi : i < 8) {s : Nat} (hF : F ≤ 40) (hs : C 14 i = nI s) (hs8 : s ≤ 8) (hpg : pgC C i s F) {w : Int32} {x2 : iV} {o : Nat} (hw : o = bf w 0 7) (hQ : Q (some (vI (exW C i s w o).1)) (HW F (exW C i s w o).2 M)) : Ev G m_X_execute 3 0 0 28 [some (vR 1), some (vR (tk i)), some x2, some (vI w)] [vI (nI o)] (HW F C M) Q := by
  have ho : o < 128 := by rw [hw]; exact bf_lt _ _ 7
  have hf3 := bf_lt w 12 3
  by_cases o3 : o = 3
  · subst o3
    refine E_lookup (tgt := 180) (off := 152) d_X_execute_28 (by decide) (by decide) (by decide) ?_
    refine E_aload_n d_X_execute_180 rfl rfl ?_
    refine E_aload_n d_X_execute_181 rfl rfl ?_
    refine E_iload_n d_X_execute_182 rfl ?_
    refine E_S3i d_X_execute_183 w_X_47 (by decide) (Nat.le_of_ble_eq_true rfl) (c_X_fetch hi hF hs hs8 hpg) ?_
    rintro _ _ ⟨rfl, rfl⟩
    exact E_ireturn d_X_execute_186 (Or.inl rfl) rfl (by rw [exW, if_pos rfl] at hQ; exact hQ)
  by_cases o15 : o = 15
  · subst o15
    refine E_lookup (tgt := 206) (off := 178) d_X_execute_28 (by decide) (by decide) (by decide) ?_
    refine E_iload_n d_X_execute_206 rfl ?_
    refine E_S1i d_X_execute_207 w_X_60 (by decide) (Nat.le_of_ble_eq_true rfl) (c_X_selector) ?_
    rintro _ _ ⟨rfl, rfl⟩
    refine E_if_ne (tgt := 220) d_X_execute_210 (by decide) (fun c210 => ?_) (fun c210 => ?_)
    · have o210 : ¬ bf w 12 3 = 0 := fun q => c210 (by rw [q]; rfl)
      refine E_iconst (v := 2) d_X_execute_220 (by decide) ?_
      exact E_ireturn d_X_execute_221 (Or.inl rfl) rfl (by rw [exW, if_neg (by decide), if_pos rfl, if_neg o210] at hQ; exact hQ)
    · have o210 : bf w 12 3 = 0 := (nI_eq (b := 0) (by omega) (by decide)).mp c210
      refine E_aload_n d_X_execute_213 rfl rfl ?_
      refine E_S1i d_X_execute_214 w_X_63 (by decide) (Nat.le_of_ble_eq_true rfl) (c_X_go hi) ?_
      rintro _ _ ⟨rfl, rfl⟩
      refine E_goto (tgt := 221) d_X_execute_217 (by decide) ?_
      exact E_ireturn d_X_execute_221 (Or.inl rfl) rfl (by rw [exW, if_neg (by decide), if_pos rfl, if_pos o210] at hQ; exact hQ)
  by_cases o19 : o = 19
  · subst o19
    refine E_lookup (tgt := 194) (off := 166) d_X_execute_28 (by decide) (by decide) (by decide) ?_
    refine E_aload_n d_X_execute_194 rfl rfl ?_
    refine E_iload_n d_X_execute_195 rfl ?_
    refine E_S2i d_X_execute_196 w_X_54 (by decide) (Nat.le_of_ble_eq_true rfl) (c_X_computeWithNumber hi) ?_
    rintro _ _ ⟨rfl, rfl⟩
    exact E_ireturn d_X_execute_199 (Or.inl rfl) rfl (by rw [exW, if_neg (by decide), if_neg (by decide), if_pos rfl] at hQ; exact hQ)
  by_cases o23 : o = 23
  · subst o23
    refine E_lookup (tgt := 138) (off := 110) d_X_execute_28 (by decide) (by decide) (by decide) ?_
    refine E_aload_n d_X_execute_138 rfl rfl ?_
    refine E_iload_n d_X_execute_139 rfl ?_
    refine E_aload_n d_X_execute_140 rfl rfl ?_
    refine L_gi d_X_execute_141 f_X_9 (SH_T0 hi) (by decide) rfl (fr_T6 hi) ?_
    refine E_iload_n d_X_execute_144 rfl ?_
    refine E_S1i d_X_execute_145 w_X_25 (by decide) (Nat.le_of_ble_eq_true rfl) (c_X_upperNumber) ?_
    rintro _ _ ⟨rfl, rfl⟩
    refine E_iadd d_X_execute_148 ?_
    refine E_S3i d_X_execute_149 w_X_31 (by decide) (Nat.le_of_ble_eq_true rfl) (c_X_setAndGo hi) ?_
    rintro _ _ ⟨rfl, rfl⟩
    exact E_ireturn d_X_execute_152 (Or.inl rfl) rfl (by rw [exW, if_neg (by decide), if_neg (by decide), if_neg (by decide), if_pos rfl] at hQ; exact hQ)
  by_cases o35 : o = 35
  · subst o35
    refine E_lookup (tgt := 187) (off := 159) d_X_execute_28 (by decide) (by decide) (by decide) ?_
    refine E_aload_n d_X_execute_187 rfl rfl ?_
    refine E_aload_n d_X_execute_188 rfl rfl ?_
    refine E_iload_n d_X_execute_189 rfl ?_
    refine E_S3i d_X_execute_190 w_X_51 (by decide) (Nat.le_of_ble_eq_true rfl) (c_X_put hi hF hs hs8 hpg) ?_
    rintro _ _ ⟨rfl, rfl⟩
    exact E_ireturn d_X_execute_193 (Or.inl rfl) rfl (by rw [exW, if_neg (by decide), if_neg (by decide), if_neg (by decide), if_neg (by decide), if_pos rfl] at hQ; exact hQ)
  by_cases o51 : o = 51
  · subst o51
    refine E_lookup (tgt := 200) (off := 172) d_X_execute_28 (by decide) (by decide) (by decide) ?_
    refine E_aload_n d_X_execute_200 rfl rfl ?_
    refine E_iload_n d_X_execute_201 rfl ?_
    refine E_S2i d_X_execute_202 w_X_57 (by decide) (Nat.le_of_ble_eq_true rfl) (c_X_computeWithRegister hi) ?_
    rintro _ _ ⟨rfl, rfl⟩
    exact E_ireturn d_X_execute_205 (Or.inl rfl) rfl (by rw [exW, if_neg (by decide), if_neg (by decide), if_neg (by decide), if_neg (by decide), if_neg (by decide), if_pos rfl] at hQ; exact hQ)
  by_cases o55 : o = 55
  · subst o55
    refine E_lookup (tgt := 128) (off := 100) d_X_execute_28 (by decide) (by decide) (by decide) ?_
    refine E_aload_n d_X_execute_128 rfl rfl ?_
    refine E_iload_n d_X_execute_129 rfl ?_
    refine E_iload_n d_X_execute_130 rfl ?_
    refine E_S1i d_X_execute_131 w_X_25 (by decide) (Nat.le_of_ble_eq_true rfl) (c_X_upperNumber) ?_
    rintro _ _ ⟨rfl, rfl⟩
    refine E_S3i d_X_execute_134 w_X_31 (by decide) (Nat.le_of_ble_eq_true rfl) (c_X_setAndGo hi) ?_
    rintro _ _ ⟨rfl, rfl⟩
    exact E_ireturn d_X_execute_137 (Or.inl rfl) rfl (by rw [exW, if_neg (by decide), if_neg (by decide), if_neg (by decide), if_neg (by decide), if_neg (by decide), if_neg (by decide), if_pos rfl] at hQ; exact hQ)
  by_cases o99 : o = 99
  · subst o99
    refine E_lookup (tgt := 174) (off := 146) d_X_execute_28 (by decide) (by decide) (by decide) ?_
    refine E_aload_n d_X_execute_174 rfl rfl ?_
    refine E_iload_n d_X_execute_175 rfl ?_
    refine E_S2i d_X_execute_176 w_X_44 (by decide) (Nat.le_of_ble_eq_true rfl) (c_X_branch hi) ?_
    rintro _ _ ⟨rfl, rfl⟩
    exact E_ireturn d_X_execute_179 (Or.inl rfl) rfl (by rw [exW, if_neg (by decide), if_neg (by decide), if_neg (by decide), if_neg (by decide), if_neg (by decide), if_neg (by decide), if_neg (by decide), if_pos rfl] at hQ; exact hQ)
  by_cases o103 : o = 103
  · subst o103
    refine E_lookup (tgt := 168) (off := 140) d_X_execute_28 (by decide) (by decide) (by decide) ?_
    refine E_aload_n d_X_execute_168 rfl rfl ?_
    refine E_iload_n d_X_execute_169 rfl ?_
    refine E_S2i d_X_execute_170 w_X_41 (by decide) (Nat.le_of_ble_eq_true rfl) (c_X_jumpByRegister hi) ?_
    rintro _ _ ⟨rfl, rfl⟩
    exact E_ireturn d_X_execute_173 (Or.inl rfl) rfl (by rw [exW, if_neg (by decide), if_neg (by decide), if_neg (by decide), if_neg (by decide), if_neg (by decide), if_neg (by decide), if_neg (by decide), if_neg (by decide), if_pos rfl] at hQ; exact hQ)
  by_cases o111 : o = 111
  · subst o111
    refine E_lookup (tgt := 153) (off := 125) d_X_execute_28 (by decide) (by decide) (by decide) ?_
    refine E_aload_n d_X_execute_153 rfl rfl ?_
    refine E_iload_n d_X_execute_154 rfl ?_
    refine E_aload_n d_X_execute_155 rfl rfl ?_
    refine L_gi d_X_execute_156 f_X_9 (SH_T0 hi) (by decide) rfl (fr_T6 hi) ?_
    refine E_iload_n d_X_execute_159 rfl ?_
    refine E_S1i d_X_execute_160 w_X_35 (by decide) (Nat.le_of_ble_eq_true rfl) (c_X_jumpNumber) ?_
    rintro _ _ ⟨rfl, rfl⟩
    refine E_iadd d_X_execute_163 ?_
    refine E_S3i d_X_execute_164 w_X_38 (by decide) (Nat.le_of_ble_eq_true rfl) (c_X_jump hi) ?_
    rintro _ _ ⟨rfl, rfl⟩
    exact E_ireturn d_X_execute_167 (Or.inl rfl) rfl (by rw [exW, if_neg (by decide), if_neg (by decide), if_neg (by decide), if_neg (by decide), if_neg (by decide), if_neg (by decide), if_neg (by decide), if_neg (by decide), if_neg (by decide), if_pos rfl] at hQ; exact hQ)
  by_cases o115 : o = 115
  · subst o115
    refine E_lookup (tgt := 222) (off := 194) d_X_execute_28 (by decide) (by decide) (by decide) ?_
    refine E_iload_n d_X_execute_222 rfl ?_
    refine E_S1i d_X_execute_223 w_X_67 (by decide) (Nat.le_of_ble_eq_true rfl) (c_X_special) ?_
    rintro _ _ ⟨rfl, rfl⟩
    exact E_ireturn d_X_execute_226 (Or.inl rfl) rfl (by rw [exW, if_neg (by decide), if_neg (by decide), if_neg (by decide), if_neg (by decide), if_neg (by decide), if_neg (by decide), if_neg (by decide), if_neg (by decide), if_neg (by decide), if_neg (by decide), if_pos rfl] at hQ; exact hQ)
  refine E_lookup (tgt := 227) (off := 199) d_X_execute_28 (by decide) (by show Op.lookupswitch.offset [(3, 152), (15, 178), (19, 166), (23, 110), (35, 159), (51, 172), (55, 100), (99, 146), (103, 140), (111, 125), (115, 194)] 199 _ = _; rw [lv_osw (k := 3) (a := 3) (fun q => o3 ((nI_eq (b := 3) (by omega) (by decide)).mp q)) rfl, lv_osw (k := 15) (a := 15) (fun q => o15 ((nI_eq (b := 15) (by omega) (by decide)).mp q)) rfl, lv_osw (k := 19) (a := 19) (fun q => o19 ((nI_eq (b := 19) (by omega) (by decide)).mp q)) rfl, lv_osw (k := 23) (a := 23) (fun q => o23 ((nI_eq (b := 23) (by omega) (by decide)).mp q)) rfl, lv_osw (k := 35) (a := 35) (fun q => o35 ((nI_eq (b := 35) (by omega) (by decide)).mp q)) rfl, lv_osw (k := 51) (a := 51) (fun q => o51 ((nI_eq (b := 51) (by omega) (by decide)).mp q)) rfl, lv_osw (k := 55) (a := 55) (fun q => o55 ((nI_eq (b := 55) (by omega) (by decide)).mp q)) rfl, lv_osw (k := 99) (a := 99) (fun q => o99 ((nI_eq (b := 99) (by omega) (by decide)).mp q)) rfl, lv_osw (k := 103) (a := 103) (fun q => o103 ((nI_eq (b := 103) (by omega) (by decide)).mp q)) rfl, lv_osw (k := 111) (a := 111) (fun q => o111 ((nI_eq (b := 111) (by omega) (by decide)).mp q)) rfl, lv_osw (k := 115) (a := 115) (fun q => o115 ((nI_eq (b := 115) (by omega) (by decide)).mp q)) rfl]; rfl) (by decide) ?_
  refine E_iconst (v := 2) d_X_execute_227 (by decide) ?_
  exact E_ireturn d_X_execute_228 (Or.inl rfl) rfl (by rw [exW, if_neg o3, if_neg o15, if_neg o19, if_neg o23, if_neg o35, if_neg o51, if_neg o55, if_neg o99, if_neg o103, if_neg o111, if_neg o115] at hQ; exact hQ)
theorem c_X_execute {G : iG} {F : Nat} {C M : Nat → Nat → Int32} {i : Nat} (hi : i < 8) {s : Nat} (hF : F ≤ 40) (hs : C 14 i = nI s) (hs8 : s ≤ 8) (hpg : pgC C i s F) : MI G m_X_execute 3 [vR 1, vR (tk i)] (HW F C M) (fun x h' => x = (exC C i s).1 ∧ h' = HW F (exC C i s).2 M) := by
  refine Mt.of' (Ls := [some (vR 1), some (vR (tk i)), none, none]) (by decide) (by simp [ct]) (Nat.le_of_ble_eq_true rfl) rfl ?_
  obtain ⟨a, ea⟩ : ∃ a, a = C 16 i := ⟨_, rfl⟩
  have hx := a.toBitVec.isLt
  by_cases hpl : a.toBitVec.toNat / 64 < s
  · obtain ⟨fr, hfr, efr⟩ := hpg _ hpl
    have epl : plN C i a = fr * 16 + a.toBitVec.toNat / 4 % 16 := by rw [plN, efr, nv_nI (by omega)]
    obtain ⟨w, hw⟩ : ∃ w, w = C 2 (fr * 16 + a.toBitVec.toNat / 4 % 16) := ⟨_, rfl⟩
    have eq : exC C i s = exW C i s w (bf w 0 7) := by rw [exC, ← ea, if_pos hpl, epl, ← hw]
    refine E_aload_n d_X_execute_0 rfl rfl ?_
    refine E_aload_n d_X_execute_1 rfl rfl ?_
    refine E_aload_n d_X_execute_2 rfl rfl ?_
    refine L_gi d_X_execute_3 f_X_9 (SH_T0 hi) (by decide) rfl (fr_T6 hi) ?_
    refine E_tp (y := a) ea.symm ?_
    refine E_V2i d_X_execute_6 w_X_15 rfl (by decide) (Nat.le_of_ble_eq_true rfl) (c_MEM_placeOf hi hs hs8) ?_
    rintro _ _ ⟨rfl, rfl⟩
    refine E_tp (y := nI (fr * 16 + a.toBitVec.toNat / 4 % 16)) (by rw [plC, if_pos hpl, efr, show (16 : Int32) = nI 16 from rfl, pk_mul, nI_add]) ?_
    refine E_istore_n d_X_execute_9 (by decide) ?_
    refine E_iload_n d_X_execute_10 rfl ?_
    refine E_iconst (v := -1) d_X_execute_11 (by decide) ?_
    refine E_icmp_ne (tgt := 17) d_X_execute_12 (by decide) (fun _ => ?_) (fun c => absurd c (fun q => by have := nI_pos' (n := fr * 16 + a.toBitVec.toNat / 4 % 16) (by omega); rw [q] at this; exact absurd this (by decide)))
    refine E_aload_n d_X_execute_17 rfl rfl ?_
    refine L_gr d_X_execute_18 f_X_21 rfl (by decide) rfl rfl ?_
    refine E_iload_n d_X_execute_21 rfl ?_
    refine L_ld (j := fr * 16 + a.toBitVec.toNat / 4 % 16) d_X_execute_22 rfl rfl (by omega) (by omega) (fr_K _ (by decide)) ?_
    refine E_tp (y := w) hw.symm ?_
    refine E_istore_n d_X_execute_23 (by decide) ?_
    refine E_iload_n d_X_execute_24 rfl ?_
    refine E_bipush (v := 127) d_X_execute_25 (by decide) ?_
    refine E_iand d_X_execute_27 ?_
    refine E_tp (y := nI (bf w 0 7)) (by rw [pk_and w 7 (by decide)]; simp [bf]) ?_
    exact md_X_execute hi hF hs hs8 hpg rfl ⟨_, rfl, by rw [eq], by rw [eq]⟩
  · refine E_aload_n d_X_execute_0 rfl rfl ?_
    refine E_aload_n d_X_execute_1 rfl rfl ?_
    refine E_aload_n d_X_execute_2 rfl rfl ?_
    refine L_gi d_X_execute_3 f_X_9 (SH_T0 hi) (by decide) rfl (fr_T6 hi) ?_
    refine E_tp (y := a) ea.symm ?_
    refine E_V2i d_X_execute_6 w_X_15 rfl (by decide) (Nat.le_of_ble_eq_true rfl) (c_MEM_placeOf hi hs hs8) ?_
    rintro _ _ ⟨rfl, rfl⟩
    rw [plC, if_neg hpl]
    refine E_istore_n d_X_execute_9 (by decide) ?_
    refine E_iload_n d_X_execute_10 rfl ?_
    refine E_iconst (v := -1) d_X_execute_11 (by decide) ?_
    refine E_icmp_ne (tgt := 17) d_X_execute_12 (by decide) (fun c => absurd (by decide) c) (fun _ => ?_)
    refine E_iconst (v := 1) d_X_execute_15 (by decide) ?_
    exact E_ireturn d_X_execute_16 (Or.inl rfl) rfl ⟨_, rfl, by rw [exC, ← ea, if_neg hpl], by rw [exC, ← ea, if_neg hpl]⟩
