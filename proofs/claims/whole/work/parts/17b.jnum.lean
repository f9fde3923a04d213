def ush (x y : Int32) : Int32 := (x.toUInt32 >>> (y.toUInt32 &&& Int32.toUInt32 31)).toInt32
def nlA (x : Int32) : Int32 × Int32 := if x < 256 then (31, x) else (31 + (-8), ush x 8)
def nlB (p : Int32 × Int32) : Int32 × Int32 := if p.2 < 16 then p else (p.1 + (-4), ush p.2 4)
def nlC (p : Int32 × Int32) : Int32 × Int32 := if p.2 < 4 then p else (p.1 + (-2), ush p.2 2)
def nlz (x : Int32) : Int32 := if 0 < x then (nlC (nlB (nlA x))).1 - ush (nlC (nlB (nlA x))).2 1 else 32
theorem kwJ6_numberOfLeadingZeros_0f7a4_c264 : Cond.constant RJ6 264 (65536) ∈ wsJ6_numberOfLeadingZeros_0f7a4 := by decide +kernel
set_option maxHeartbeats 4000000 in
set_option maxRecDepth 100000 in
theorem c_J6_numberOfLeadingZeros_0f7a4 (l : Launch) (E : gE) (zw : va_W) (x : Int32) (hx : 0 ≤ x) (hx2 : x < 65536) : CtI l yJ6_numberOfLeadingZeros_0f7a4 wsJ6_numberOfLeadingZeros_0f7a4 ({ frames := 0, cells := 0, slots := 0, locals := 0 }) E [.int x] zw (fun r w1 => zw = w1 ∧ r = nlz x) 0 0 := by
  refine Ct.of (cc := cJ6_numberOfLeadingZeros_0f7a4) (nL := 2) (ret := (some .int)) (by decide) rfl (Nat.le_of_ble_eq_true rfl) ?_
  intro p e s m args below meth c C hr hnm
  refine v_eqlv (lv9 := [(0, .int x)]) rfl ?_
  refine v_iload_n C dJ6_numberOfLeadingZeros_0f7a4_0 rfl rfl ?_
  refine v_if_gt (tgt := 15) C dJ6_numberOfLeadingZeros_0f7a4_1 (by decide) (fun c1 => ?_) (fun c1 => ?_)
  · refine v_bipush (v := 31) C dJ6_numberOfLeadingZeros_0f7a4_15 (by decide) ?_
    refine v_istore_n C dJ6_numberOfLeadingZeros_0f7a4_17 rfl (by decide) rfl ?_
    refine v_iload_n C dJ6_numberOfLeadingZeros_0f7a4_18 rfl rfl ?_
    refine v_ldcw C kwJ6_numberOfLeadingZeros_0f7a4_c264 dJ6_numberOfLeadingZeros_0f7a4_19 ?_
    refine v_icmp_lt (tgt := 33) C dJ6_numberOfLeadingZeros_0f7a4_22 (by decide) (fun c22 => ?_) (fun c22 => absurd hx2 c22)
    refine v_iload_n C dJ6_numberOfLeadingZeros_0f7a4_33 rfl rfl ?_
    refine v_sipush (v := 256) C dJ6_numberOfLeadingZeros_0f7a4_34 (by decide) ?_
    refine v_icmp_lt (tgt := 48) C dJ6_numberOfLeadingZeros_0f7a4_37 (by decide) (fun c37 => ?_) (fun c37 => ?_)
    · refine v_iload_n C dJ6_numberOfLeadingZeros_0f7a4_48 rfl rfl ?_
      refine v_bipush (v := 16) C dJ6_numberOfLeadingZeros_0f7a4_49 (by decide) ?_
      refine v_icmp_lt (tgt := 61) C dJ6_numberOfLeadingZeros_0f7a4_51 (by decide) (fun c51 => ?_) (fun c51 => ?_)
      · refine v_iload_n C dJ6_numberOfLeadingZeros_0f7a4_61 rfl rfl ?_
        refine v_iconst (v := 4) C dJ6_numberOfLeadingZeros_0f7a4_62 (by decide) ?_
        refine v_icmp_lt (tgt := 73) C dJ6_numberOfLeadingZeros_0f7a4_63 (by decide) (fun c63 => ?_) (fun c63 => ?_)
        · refine v_iload_n C dJ6_numberOfLeadingZeros_0f7a4_73 rfl rfl ?_
          refine v_iload_n C dJ6_numberOfLeadingZeros_0f7a4_74 rfl rfl ?_
          refine v_iconst (v := 1) C dJ6_numberOfLeadingZeros_0f7a4_75 (by decide) ?_
          refine v_iushr (v := ush _ _) C dJ6_numberOfLeadingZeros_0f7a4_76 rfl ?_
          refine v_isub C dJ6_numberOfLeadingZeros_0f7a4_77 ?_
          exact v_iret C hr dJ6_numberOfLeadingZeros_0f7a4_78 (Nat.le_refl _) (Nat.le_refl _) ⟨_, rfl, ⟨rfl, by unfold nlz; rw [if_pos c1]; first | (simp only [nlA, nlB, nlC, if_pos c37, if_pos c51, if_pos c63]; done) | (simp only [nlA, nlB, nlC, if_pos c37, if_pos c51, if_neg c63]; done) | (simp only [nlA, nlB, nlC, if_pos c37, if_neg c51, if_pos c63]; done) | (simp only [nlA, nlB, nlC, if_pos c37, if_neg c51, if_neg c63]; done) | (simp only [nlA, nlB, nlC, if_neg c37, if_pos c51, if_pos c63]; done) | (simp only [nlA, nlB, nlC, if_neg c37, if_pos c51, if_neg c63]; done) | (simp only [nlA, nlB, nlC, if_neg c37, if_neg c51, if_pos c63]; done) | (simp only [nlA, nlB, nlC, if_neg c37, if_neg c51, if_neg c63]; done)⟩⟩
        · refine v_iinc (d := (-2)) C dJ6_numberOfLeadingZeros_0f7a4_66 (by decide) rfl (by decide) rfl ?_
          refine v_iload_n C dJ6_numberOfLeadingZeros_0f7a4_69 rfl rfl ?_
          refine v_iconst (v := 2) C dJ6_numberOfLeadingZeros_0f7a4_70 (by decide) ?_
          refine v_iushr (v := ush _ _) C dJ6_numberOfLeadingZeros_0f7a4_71 rfl ?_
          refine v_istore_n C dJ6_numberOfLeadingZeros_0f7a4_72 rfl (by decide) rfl ?_
          refine v_iload_n C dJ6_numberOfLeadingZeros_0f7a4_73 rfl rfl ?_
          refine v_iload_n C dJ6_numberOfLeadingZeros_0f7a4_74 rfl rfl ?_
          refine v_iconst (v := 1) C dJ6_numberOfLeadingZeros_0f7a4_75 (by decide) ?_
          refine v_iushr (v := ush _ _) C dJ6_numberOfLeadingZeros_0f7a4_76 rfl ?_
          refine v_at (pc9 := 77) rfl ?_
          refine v_isub C dJ6_numberOfLeadingZeros_0f7a4_77 ?_
          exact v_iret C hr dJ6_numberOfLeadingZeros_0f7a4_78 (Nat.le_refl _) (Nat.le_refl _) ⟨_, rfl, ⟨rfl, by unfold nlz; rw [if_pos c1]; first | (simp only [nlA, nlB, nlC, if_pos c37, if_pos c51, if_pos c63]; done) | (simp only [nlA, nlB, nlC, if_pos c37, if_pos c51, if_neg c63]; done) | (simp only [nlA, nlB, nlC, if_pos c37, if_neg c51, if_pos c63]; done) | (simp only [nlA, nlB, nlC, if_pos c37, if_neg c51, if_neg c63]; done) | (simp only [nlA, nlB, nlC, if_neg c37, if_pos c51, if_pos c63]; done) | (simp only [nlA, nlB, nlC, if_neg c37, if_pos c51, if_neg c63]; done) | (simp only [nlA, nlB, nlC, if_neg c37, if_neg c51, if_pos c63]; done) | (simp only [nlA, nlB, nlC, if_neg c37, if_neg c51, if_neg c63]; done)⟩⟩
      · refine v_iinc (d := (-4)) C dJ6_numberOfLeadingZeros_0f7a4_54 (by decide) rfl (by decide) rfl ?_
        refine v_iload_n C dJ6_numberOfLeadingZeros_0f7a4_57 rfl rfl ?_
        refine v_iconst (v := 4) C dJ6_numberOfLeadingZeros_0f7a4_58 (by decide) ?_
        refine v_iushr (v := ush _ _) C dJ6_numberOfLeadingZeros_0f7a4_59 rfl ?_
        refine v_istore_n C dJ6_numberOfLeadingZeros_0f7a4_60 rfl (by decide) rfl ?_
        refine v_iload_n C dJ6_numberOfLeadingZeros_0f7a4_61 rfl rfl ?_
        refine v_iconst (v := 4) C dJ6_numberOfLeadingZeros_0f7a4_62 (by decide) ?_
        refine v_icmp_lt (tgt := 73) C dJ6_numberOfLeadingZeros_0f7a4_63 (by decide) (fun c63 => ?_) (fun c63 => ?_)
        · refine v_iload_n C dJ6_numberOfLeadingZeros_0f7a4_73 rfl rfl ?_
          refine v_iload_n C dJ6_numberOfLeadingZeros_0f7a4_74 rfl rfl ?_
          refine v_iconst (v := 1) C dJ6_numberOfLeadingZeros_0f7a4_75 (by decide) ?_
          refine v_iushr (v := ush _ _) C dJ6_numberOfLeadingZeros_0f7a4_76 rfl ?_
          refine v_isub C dJ6_numberOfLeadingZeros_0f7a4_77 ?_
          exact v_iret C hr dJ6_numberOfLeadingZeros_0f7a4_78 (Nat.le_refl _) (Nat.le_refl _) ⟨_, rfl, ⟨rfl, by unfold nlz; rw [if_pos c1]; first | (simp only [nlA, nlB, nlC, if_pos c37, if_pos c51, if_pos c63]; done) | (simp only [nlA, nlB, nlC, if_pos c37, if_pos c51, if_neg c63]; done) | (simp only [nlA, nlB, nlC, if_pos c37, if_neg c51, if_pos c63]; done) | (simp only [nlA, nlB, nlC, if_pos c37, if_neg c51, if_neg c63]; done) | (simp only [nlA, nlB, nlC, if_neg c37, if_pos c51, if_pos c63]; done) | (simp only [nlA, nlB, nlC, if_neg c37, if_pos c51, if_neg c63]; done) | (simp only [nlA, nlB, nlC, if_neg c37, if_neg c51, if_pos c63]; done) | (simp only [nlA, nlB, nlC, if_neg c37, if_neg c51, if_neg c63]; done)⟩⟩
        · refine v_iinc (d := (-2)) C dJ6_numberOfLeadingZeros_0f7a4_66 (by decide) rfl (by decide) rfl ?_
          refine v_iload_n C dJ6_numberOfLeadingZeros_0f7a4_69 rfl rfl ?_
          refine v_iconst (v := 2) C dJ6_numberOfLeadingZeros_0f7a4_70 (by decide) ?_
          refine v_iushr (v := ush _ _) C dJ6_numberOfLeadingZeros_0f7a4_71 rfl ?_
          refine v_istore_n C dJ6_numberOfLeadingZeros_0f7a4_72 rfl (by decide) rfl ?_
          refine v_iload_n C dJ6_numberOfLeadingZeros_0f7a4_73 rfl rfl ?_
          refine v_iload_n C dJ6_numberOfLeadingZeros_0f7a4_74 rfl rfl ?_
          refine v_iconst (v := 1) C dJ6_numberOfLeadingZeros_0f7a4_75 (by decide) ?_
          refine v_iushr (v := ush _ _) C dJ6_numberOfLeadingZeros_0f7a4_76 rfl ?_
          refine v_at (pc9 := 77) rfl ?_
          refine v_isub C dJ6_numberOfLeadingZeros_0f7a4_77 ?_
          exact v_iret C hr dJ6_numberOfLeadingZeros_0f7a4_78 (Nat.le_refl _) (Nat.le_refl _) ⟨_, rfl, ⟨rfl, by unfold nlz; rw [if_pos c1]; first | (simp only [nlA, nlB, nlC, if_pos c37, if_pos c51, if_pos c63]; done) | (simp only [nlA, nlB, nlC, if_pos c37, if_pos c51, if_neg c63]; done) | (simp only [nlA, nlB, nlC, if_pos c37, if_neg c51, if_pos c63]; done) | (simp only [nlA, nlB, nlC, if_pos c37, if_neg c51, if_neg c63]; done) | (simp only [nlA, nlB, nlC, if_neg c37, if_pos c51, if_pos c63]; done) | (simp only [nlA, nlB, nlC, if_neg c37, if_pos c51, if_neg c63]; done) | (simp only [nlA, nlB, nlC, if_neg c37, if_neg c51, if_pos c63]; done) | (simp only [nlA, nlB, nlC, if_neg c37, if_neg c51, if_neg c63]; done)⟩⟩
    · refine v_iinc (d := (-8)) C dJ6_numberOfLeadingZeros_0f7a4_40 (by decide) rfl (by decide) rfl ?_
      refine v_iload_n C dJ6_numberOfLeadingZeros_0f7a4_43 rfl rfl ?_
      refine v_bipush (v := 8) C dJ6_numberOfLeadingZeros_0f7a4_44 (by decide) ?_
      refine v_iushr (v := ush _ _) C dJ6_numberOfLeadingZeros_0f7a4_46 rfl ?_
      refine v_istore_n C dJ6_numberOfLeadingZeros_0f7a4_47 rfl (by decide) rfl ?_
      refine v_iload_n C dJ6_numberOfLeadingZeros_0f7a4_48 rfl rfl ?_
      refine v_bipush (v := 16) C dJ6_numberOfLeadingZeros_0f7a4_49 (by decide) ?_
      refine v_icmp_lt (tgt := 61) C dJ6_numberOfLeadingZeros_0f7a4_51 (by decide) (fun c51 => ?_) (fun c51 => ?_)
      · refine v_iload_n C dJ6_numberOfLeadingZeros_0f7a4_61 rfl rfl ?_
        refine v_iconst (v := 4) C dJ6_numberOfLeadingZeros_0f7a4_62 (by decide) ?_
        refine v_icmp_lt (tgt := 73) C dJ6_numberOfLeadingZeros_0f7a4_63 (by decide) (fun c63 => ?_) (fun c63 => ?_)
        · refine v_iload_n C dJ6_numberOfLeadingZeros_0f7a4_73 rfl rfl ?_
          refine v_iload_n C dJ6_numberOfLeadingZeros_0f7a4_74 rfl rfl ?_
          refine v_iconst (v := 1) C dJ6_numberOfLeadingZeros_0f7a4_75 (by decide) ?_
          refine v_iushr (v := ush _ _) C dJ6_numberOfLeadingZeros_0f7a4_76 rfl ?_
          refine v_isub C dJ6_numberOfLeadingZeros_0f7a4_77 ?_
          exact v_iret C hr dJ6_numberOfLeadingZeros_0f7a4_78 (Nat.le_refl _) (Nat.le_refl _) ⟨_, rfl, ⟨rfl, by unfold nlz; rw [if_pos c1]; first | (simp only [nlA, nlB, nlC, if_pos c37, if_pos c51, if_pos c63]; done) | (simp only [nlA, nlB, nlC, if_pos c37, if_pos c51, if_neg c63]; done) | (simp only [nlA, nlB, nlC, if_pos c37, if_neg c51, if_pos c63]; done) | (simp only [nlA, nlB, nlC, if_pos c37, if_neg c51, if_neg c63]; done) | (simp only [nlA, nlB, nlC, if_neg c37, if_pos c51, if_pos c63]; done) | (simp only [nlA, nlB, nlC, if_neg c37, if_pos c51, if_neg c63]; done) | (simp only [nlA, nlB, nlC, if_neg c37, if_neg c51, if_pos c63]; done) | (simp only [nlA, nlB, nlC, if_neg c37, if_neg c51, if_neg c63]; done)⟩⟩
        · refine v_iinc (d := (-2)) C dJ6_numberOfLeadingZeros_0f7a4_66 (by decide) rfl (by decide) rfl ?_
          refine v_iload_n C dJ6_numberOfLeadingZeros_0f7a4_69 rfl rfl ?_
          refine v_iconst (v := 2) C dJ6_numberOfLeadingZeros_0f7a4_70 (by decide) ?_
          refine v_iushr (v := ush _ _) C dJ6_numberOfLeadingZeros_0f7a4_71 rfl ?_
          refine v_istore_n C dJ6_numberOfLeadingZeros_0f7a4_72 rfl (by decide) rfl ?_
          refine v_iload_n C dJ6_numberOfLeadingZeros_0f7a4_73 rfl rfl ?_
          refine v_iload_n C dJ6_numberOfLeadingZeros_0f7a4_74 rfl rfl ?_
          refine v_iconst (v := 1) C dJ6_numberOfLeadingZeros_0f7a4_75 (by decide) ?_
          refine v_iushr (v := ush _ _) C dJ6_numberOfLeadingZeros_0f7a4_76 rfl ?_
          refine v_at (pc9 := 77) rfl ?_
          refine v_isub C dJ6_numberOfLeadingZeros_0f7a4_77 ?_
          exact v_iret C hr dJ6_numberOfLeadingZeros_0f7a4_78 (Nat.le_refl _) (Nat.le_refl _) ⟨_, rfl, ⟨rfl, by unfold nlz; rw [if_pos c1]; first | (simp only [nlA, nlB, nlC, if_pos c37, if_pos c51, if_pos c63]; done) | (simp only [nlA, nlB, nlC, if_pos c37, if_pos c51, if_neg c63]; done) | (simp only [nlA, nlB, nlC, if_pos c37, if_neg c51, if_pos c63]; done) | (simp only [nlA, nlB, nlC, if_pos c37, if_neg c51, if_neg c63]; done) | (simp only [nlA, nlB, nlC, if_neg c37, if_pos c51, if_pos c63]; done) | (simp only [nlA, nlB, nlC, if_neg c37, if_pos c51, if_neg c63]; done) | (simp only [nlA, nlB, nlC, if_neg c37, if_neg c51, if_pos c63]; done) | (simp only [nlA, nlB, nlC, if_neg c37, if_neg c51, if_neg c63]; done)⟩⟩
      · refine v_iinc (d := (-4)) C dJ6_numberOfLeadingZeros_0f7a4_54 (by decide) rfl (by decide) rfl ?_
        refine v_iload_n C dJ6_numberOfLeadingZeros_0f7a4_57 rfl rfl ?_
        refine v_iconst (v := 4) C dJ6_numberOfLeadingZeros_0f7a4_58 (by decide) ?_
        refine v_iushr (v := ush _ _) C dJ6_numberOfLeadingZeros_0f7a4_59 rfl ?_
        refine v_istore_n C dJ6_numberOfLeadingZeros_0f7a4_60 rfl (by decide) rfl ?_
        refine v_iload_n C dJ6_numberOfLeadingZeros_0f7a4_61 rfl rfl ?_
        refine v_iconst (v := 4) C dJ6_numberOfLeadingZeros_0f7a4_62 (by decide) ?_
        refine v_icmp_lt (tgt := 73) C dJ6_numberOfLeadingZeros_0f7a4_63 (by decide) (fun c63 => ?_) (fun c63 => ?_)
        · refine v_iload_n C dJ6_numberOfLeadingZeros_0f7a4_73 rfl rfl ?_
          refine v_iload_n C dJ6_numberOfLeadingZeros_0f7a4_74 rfl rfl ?_
          refine v_iconst (v := 1) C dJ6_numberOfLeadingZeros_0f7a4_75 (by decide) ?_
          refine v_iushr (v := ush _ _) C dJ6_numberOfLeadingZeros_0f7a4_76 rfl ?_
          refine v_isub C dJ6_numberOfLeadingZeros_0f7a4_77 ?_
          exact v_iret C hr dJ6_numberOfLeadingZeros_0f7a4_78 (Nat.le_refl _) (Nat.le_refl _) ⟨_, rfl, ⟨rfl, by unfold nlz; rw [if_pos c1]; first | (simp only [nlA, nlB, nlC, if_pos c37, if_pos c51, if_pos c63]; done) | (simp only [nlA, nlB, nlC, if_pos c37, if_pos c51, if_neg c63]; done) | (simp only [nlA, nlB, nlC, if_pos c37, if_neg c51, if_pos c63]; done) | (simp only [nlA, nlB, nlC, if_pos c37, if_neg c51, if_neg c63]; done) | (simp only [nlA, nlB, nlC, if_neg c37, if_pos c51, if_pos c63]; done) | (simp only [nlA, nlB, nlC, if_neg c37, if_pos c51, if_neg c63]; done) | (simp only [nlA, nlB, nlC, if_neg c37, if_neg c51, if_pos c63]; done) | (simp only [nlA, nlB, nlC, if_neg c37, if_neg c51, if_neg c63]; done)⟩⟩
        · refine v_iinc (d := (-2)) C dJ6_numberOfLeadingZeros_0f7a4_66 (by decide) rfl (by decide) rfl ?_
          refine v_iload_n C dJ6_numberOfLeadingZeros_0f7a4_69 rfl rfl ?_
          refine v_iconst (v := 2) C dJ6_numberOfLeadingZeros_0f7a4_70 (by decide) ?_
          refine v_iushr (v := ush _ _) C dJ6_numberOfLeadingZeros_0f7a4_71 rfl ?_
          refine v_istore_n C dJ6_numberOfLeadingZeros_0f7a4_72 rfl (by decide) rfl ?_
          refine v_iload_n C dJ6_numberOfLeadingZeros_0f7a4_73 rfl rfl ?_
          refine v_iload_n C dJ6_numberOfLeadingZeros_0f7a4_74 rfl rfl ?_
          refine v_iconst (v := 1) C dJ6_numberOfLeadingZeros_0f7a4_75 (by decide) ?_
          refine v_iushr (v := ush _ _) C dJ6_numberOfLeadingZeros_0f7a4_76 rfl ?_
          refine v_at (pc9 := 77) rfl ?_
          refine v_isub C dJ6_numberOfLeadingZeros_0f7a4_77 ?_
          exact v_iret C hr dJ6_numberOfLeadingZeros_0f7a4_78 (Nat.le_refl _) (Nat.le_refl _) ⟨_, rfl, ⟨rfl, by unfold nlz; rw [if_pos c1]; first | (simp only [nlA, nlB, nlC, if_pos c37, if_pos c51, if_pos c63]; done) | (simp only [nlA, nlB, nlC, if_pos c37, if_pos c51, if_neg c63]; done) | (simp only [nlA, nlB, nlC, if_pos c37, if_neg c51, if_pos c63]; done) | (simp only [nlA, nlB, nlC, if_pos c37, if_neg c51, if_neg c63]; done) | (simp only [nlA, nlB, nlC, if_neg c37, if_pos c51, if_pos c63]; done) | (simp only [nlA, nlB, nlC, if_neg c37, if_pos c51, if_neg c63]; done) | (simp only [nlA, nlB, nlC, if_neg c37, if_neg c51, if_pos c63]; done) | (simp only [nlA, nlB, nlC, if_neg c37, if_neg c51, if_neg c63]; done)⟩⟩
  · refine v_iload_n C dJ6_numberOfLeadingZeros_0f7a4_4 rfl rfl ?_
    refine v_if_ne (tgt := 13) C dJ6_numberOfLeadingZeros_0f7a4_5 (by decide) (fun c5 => ?_) (fun c5 => ?_)
    · exact absurd (show x = 0 by rw [fa_eq, ti_0]; rw [fa_lt, ti_0] at c1; rw [fa_le, ti_0] at hx; omega) c5
    · refine v_bipush (v := 32) C dJ6_numberOfLeadingZeros_0f7a4_8 (by decide) ?_
      refine v_goto (tgt := 14) C dJ6_numberOfLeadingZeros_0f7a4_10 (by decide) ?_
      exact v_iret C hr dJ6_numberOfLeadingZeros_0f7a4_14 (Nat.le_refl _) (Nat.le_refl _) ⟨_, rfl, ⟨rfl, (if_neg c1).symm⟩⟩
def hob (x : Int32) : Int32 := x &&& ush (-2147483648) (nlz x)
theorem hob_0 : hob 0 = 0 := by decide
def nlN (n : Nat) : Nat × Nat := if n < 256 then (31, n) else (23, n / 2 ^ 8)
def nlM (p : Nat × Nat) : Nat × Nat := if p.2 < 16 then p else (p.1 - 4, p.2 / 2 ^ 4)
def nlO (p : Nat × Nat) : Nat × Nat := if p.2 < 4 then p else (p.1 - 2, p.2 / 2 ^ 2)
def nlX (n : Nat) : Nat := (nlO (nlM (nlN n))).1 - (nlO (nlM (nlN n))).2 / 2 ^ 1
theorem ush_n {n : Nat} (h : n < 2 ^ 32) (y : Int32) (k : Nat) (hy : ((y.toUInt32 &&& Int32.toUInt32 31).toBitVec % 32).toNat = k) : ush (nI n) y = nI (n / 2 ^ k) := pk_ushrN h y k hy
theorem lt_lit {n : Nat} (h : n < 2 ^ 31) (c : Int32) (k : Nat) (hc : c.toInt = k) : nI n < c ↔ n < k := by
  rw [fa_lt, nI_toInt h, hc]; omega
theorem nlA_n {n : Nat} (h : n < 2048) : nlA (nI n) = (nI (nlN n).1, nI (nlN n).2) := by
  unfold nlA nlN
  by_cases q : n < 256
  · rw [if_pos ((lt_lit (by omega) 256 256 (by decide)).mpr q), if_pos q]; rfl
  · rw [if_neg (fun z => q ((lt_lit (by omega) 256 256 (by decide)).mp z)), if_neg q, ush_n (by omega) 8 8 (by decide)]; exact congrArg (fun z => (z, nI (n / 2 ^ 8))) (show (31 : Int32) + (-8) = nI 23 by decide)
theorem nlB_n {a b : Nat} (ha : a = 31 ∨ a = 23) (hb : b < 256) : nlB (nI a, nI b) = (nI (nlM (a, b)).1, nI (nlM (a, b)).2) := by
  unfold nlB nlM
  by_cases q : b < 16
  · rw [if_pos ((lt_lit (by omega) 16 16 (by decide)).mpr q), if_pos q]
  · rw [if_neg (fun z => q ((lt_lit (by omega) 16 16 (by decide)).mp z)), if_neg q, ush_n (by omega) 4 4 (by decide)]
    rcases ha with rfl | rfl
    · exact congrArg (fun z => (z, nI (b / 2 ^ 4))) (show nI 31 + (-4) = nI (31 - 4) by decide)
    · exact congrArg (fun z => (z, nI (b / 2 ^ 4))) (show nI 23 + (-4) = nI (23 - 4) by decide)
theorem nlC_n {a b : Nat} (ha : a = 31 ∨ a = 23 ∨ a = 27 ∨ a = 19) (hb : b < 16) : nlC (nI a, nI b) = (nI (nlO (a, b)).1, nI (nlO (a, b)).2) := by
  unfold nlC nlO
  by_cases q : b < 4
  · rw [if_pos ((lt_lit (by omega) 4 4 (by decide)).mpr q), if_pos q]
  · rw [if_neg (fun z => q ((lt_lit (by omega) 4 4 (by decide)).mp z)), if_neg q, ush_n (by omega) 2 2 (by decide)]
    rcases ha with rfl | rfl | rfl | rfl
    · exact congrArg (fun z => (z, nI (b / 2 ^ 2))) (show nI 31 + (-2) = nI (31 - 2) by decide)
    · exact congrArg (fun z => (z, nI (b / 2 ^ 2))) (show nI 23 + (-2) = nI (23 - 2) by decide)
    · exact congrArg (fun z => (z, nI (b / 2 ^ 2))) (show nI 27 + (-2) = nI (27 - 2) by decide)
    · exact congrArg (fun z => (z, nI (b / 2 ^ 2))) (show nI 19 + (-2) = nI (19 - 2) by decide)
theorem nlN_b : ∀ n, n < 2048 → ((nlN n).1 = 31 ∨ (nlN n).1 = 23) ∧ (nlN n).2 < 256 ∧ ((nlM (nlN n)).1 = 31 ∨ (nlM (nlN n)).1 = 23 ∨ (nlM (nlN n)).1 = 27 ∨ (nlM (nlN n)).1 = 19) ∧ (nlM (nlN n)).2 < 16 ∧ (nlO (nlM (nlN n))).2 < 4 ∧ 17 ≤ (nlO (nlM (nlN n))).1 ∧ (nlO (nlM (nlN n))).1 ≤ 31 := by decide +kernel
theorem nlX_b : ∀ n, n < 2048 → 0 < n → nlX n < 32 ∧ n &&& 2 ^ (31 - nlX n) = 2 ^ n.log2 := by decide +kernel
theorem ush_top : ∀ k, k < 32 → ush (-2147483648) (nI k) = nI (2 ^ (31 - k)) := by decide +kernel
theorem hob_p (n : Nat) (hn : n < 2001) (h0 : 0 < n) : hob (nI n) = nI (2 ^ n.log2) := by
  obtain ⟨h1, h2, h3, h4, h5, h6, h7⟩ := nlN_b n (by omega)
  have e : nlz (nI n) = nI (nlX n) := by
    unfold nlz
    rw [if_pos (by rw [fa_lt, ti_0, nI_toInt (by omega)]; omega), nlA_n (by omega), nlB_n h1 h2, nlC_n h3 h4]
    show nI (nlO (nlM (nlN n))).1 - ush (nI (nlO (nlM (nlN n))).2) 1 = nI (nlX n)
    rw [ush_n (by omega) 1 1 (by decide), pk_sub (by omega)]
    rfl
  obtain ⟨h8, h9⟩ := nlX_b n (by omega) h0
  unfold hob
  rw [e, ush_top _ h8, fa_and, h9]
theorem kwJ6_highestOneBit_0f7a4_c127 : Cond.constant RJ6 127 (-2147483648) ∈ wsJ6_highestOneBit_0f7a4 := by decide +kernel
set_option maxHeartbeats 4000000 in
set_option maxRecDepth 100000 in
theorem c_J6_highestOneBit_0f7a4 (l : Launch) (E : gE) (zw : va_W) (x : Int32) (hx : 0 ≤ x) (hx2 : x < 65536) : CtI l yJ6_highestOneBit_0f7a4 wsJ6_highestOneBit_0f7a4 ({ frames := 1, cells := 0, slots := 0, locals := 21 }) E [.int x] zw (fun r w1 => zw = w1 ∧ r = hob x) 0 0 := by
  refine Ct.of (cc := cJ6_highestOneBit_0f7a4) (nL := 1) (ret := (some .int)) (by decide) rfl (Nat.le_of_ble_eq_true rfl) ?_
  intro p e s m args below meth c C hr hnm
  refine v_eqlv (lv9 := [(0, .int x)]) rfl ?_
  refine v_iload_n C dJ6_highestOneBit_0f7a4_0 rfl rfl ?_
  refine v_ldc C kwJ6_highestOneBit_0f7a4_c127 dJ6_highestOneBit_0f7a4_1 ?_
  refine v_iload_n C dJ6_highestOneBit_0f7a4_3 rfl rfl ?_
  refine v_callSi C (c_J6_numberOfLeadingZeros_0f7a4 l E zw _ hx hx2) (va_cwS 1 C.1.2.2.2.2 gJ6_highestOneBit_0f7a4_J6_numberOfLeadingZeros_0f7a4 rfl rfl rfl (by decide +kernel) ⟨by decide, by decide⟩) rfl rfl (Nat.le_of_ble_eq_true rfl) dJ6_highestOneBit_0f7a4_4 ⟨Nat.le_of_ble_eq_true rfl, Nat.le_of_ble_eq_true rfl⟩ (fun r w1 hp => ?_)
  obtain ⟨rfl, rfl⟩ := hp
  refine v_iushr (v := ush _ _) C dJ6_highestOneBit_0f7a4_7 rfl ?_
  refine v_iand C dJ6_highestOneBit_0f7a4_8 ?_
  exact v_iret C hr dJ6_highestOneBit_0f7a4_9 (Nat.le_refl _) (Nat.le_refl _) ⟨_, rfl, ⟨rfl, rfl⟩⟩
def btA (x : Int32) : Int32 := x - (ush x 1 &&& 1431655765)
def btB (x : Int32) : Int32 := (x &&& 858993459) + (ush x 2 &&& 858993459)
def btC (x : Int32) : Int32 := (x + ush x 4) &&& 252645135
def btD (x : Int32) : Int32 := x + ush x 8
def btE (x : Int32) : Int32 := x + ush x 16
def btc (x : Int32) : Int32 := btE (btD (btC (btB (btA x)))) &&& 63
theorem kwJ6_bitCount_0f7a4_c265 : Cond.constant RJ6 265 (1431655765) ∈ wsJ6_bitCount_0f7a4 := by decide +kernel
theorem kwJ6_bitCount_0f7a4_c266 : Cond.constant RJ6 266 (858993459) ∈ wsJ6_bitCount_0f7a4 := by decide +kernel
theorem kwJ6_bitCount_0f7a4_c267 : Cond.constant RJ6 267 (252645135) ∈ wsJ6_bitCount_0f7a4 := by decide +kernel
set_option maxHeartbeats 4000000 in
set_option maxRecDepth 100000 in
theorem c_J6_bitCount_0f7a4 (l : Launch) (E : gE) (zw : va_W) (x : Int32) : CtI l yJ6_bitCount_0f7a4 wsJ6_bitCount_0f7a4 ({ frames := 0, cells := 0, slots := 0, locals := 0 }) E [.int x] zw (fun r w1 => zw = w1 ∧ r = btc x) 0 0 := by
  refine Ct.of (cc := cJ6_bitCount_0f7a4) (nL := 1) (ret := (some .int)) (by decide) rfl (Nat.le_of_ble_eq_true rfl) ?_
  intro p e s m args below meth c C hr hnm
  refine v_eqlv (lv9 := [(0, .int x)]) rfl ?_
  refine v_iload_n C dJ6_bitCount_0f7a4_0 rfl rfl ?_
  refine v_iload_n C dJ6_bitCount_0f7a4_1 rfl rfl ?_
  refine v_iconst (v := 1) C dJ6_bitCount_0f7a4_2 (by decide) ?_
  refine v_iushr (v := ush _ _) C dJ6_bitCount_0f7a4_3 rfl ?_
  refine v_ldcw C kwJ6_bitCount_0f7a4_c265 dJ6_bitCount_0f7a4_4 ?_
  refine v_iand C dJ6_bitCount_0f7a4_7 ?_
  refine v_isub C dJ6_bitCount_0f7a4_8 ?_
  refine v_tov (show _ = btA x from rfl) ?_
  refine v_istore_n C dJ6_bitCount_0f7a4_9 rfl (by decide) rfl ?_
  refine v_iload_n C dJ6_bitCount_0f7a4_10 rfl rfl ?_
  refine v_at (pc9 := 11) rfl ?_
  refine v_ldcw C kwJ6_bitCount_0f7a4_c266 dJ6_bitCount_0f7a4_11 ?_
  refine v_iand C dJ6_bitCount_0f7a4_14 ?_
  refine v_iload_n C dJ6_bitCount_0f7a4_15 rfl rfl ?_
  refine v_iconst (v := 2) C dJ6_bitCount_0f7a4_16 (by decide) ?_
  refine v_iushr (v := ush _ _) C dJ6_bitCount_0f7a4_17 rfl ?_
  refine v_ldcw C kwJ6_bitCount_0f7a4_c266 dJ6_bitCount_0f7a4_18 ?_
  refine v_iand C dJ6_bitCount_0f7a4_21 ?_
  refine v_iadd C dJ6_bitCount_0f7a4_22 ?_
  refine v_tov (show _ = btB (btA x) from rfl) ?_
  refine v_istore_n C dJ6_bitCount_0f7a4_23 rfl (by decide) rfl ?_
  refine v_iload_n C dJ6_bitCount_0f7a4_24 rfl rfl ?_
  refine v_at (pc9 := 25) rfl ?_
  refine v_iload_n C dJ6_bitCount_0f7a4_25 rfl rfl ?_
  refine v_iconst (v := 4) C dJ6_bitCount_0f7a4_26 (by decide) ?_
  refine v_iushr (v := ush _ _) C dJ6_bitCount_0f7a4_27 rfl ?_
  refine v_iadd C dJ6_bitCount_0f7a4_28 ?_
  refine v_ldcw C kwJ6_bitCount_0f7a4_c267 dJ6_bitCount_0f7a4_29 ?_
  refine v_iand C dJ6_bitCount_0f7a4_32 ?_
  refine v_tov (show _ = btC (btB (btA x)) from rfl) ?_
  refine v_istore_n C dJ6_bitCount_0f7a4_33 rfl (by decide) rfl ?_
  refine v_iload_n C dJ6_bitCount_0f7a4_34 rfl rfl ?_
  refine v_iload_n C dJ6_bitCount_0f7a4_35 rfl rfl ?_
  refine v_bipush (v := 8) C dJ6_bitCount_0f7a4_36 (by decide) ?_
  refine v_at (pc9 := 38) rfl ?_
  refine v_iushr (v := ush _ _) C dJ6_bitCount_0f7a4_38 rfl ?_
  refine v_iadd C dJ6_bitCount_0f7a4_39 ?_
  refine v_tov (show _ = btD (btC (btB (btA x))) from rfl) ?_
  refine v_istore_n C dJ6_bitCount_0f7a4_40 rfl (by decide) rfl ?_
  refine v_iload_n C dJ6_bitCount_0f7a4_41 rfl rfl ?_
  refine v_iload_n C dJ6_bitCount_0f7a4_42 rfl rfl ?_
  refine v_bipush (v := 16) C dJ6_bitCount_0f7a4_43 (by decide) ?_
  refine v_iushr (v := ush _ _) C dJ6_bitCount_0f7a4_45 rfl ?_
  refine v_iadd C dJ6_bitCount_0f7a4_46 ?_
  refine v_tov (show _ = btE (btD (btC (btB (btA x)))) from rfl) ?_
  refine v_istore_n C dJ6_bitCount_0f7a4_47 rfl (by decide) rfl ?_
  refine v_iload_n C dJ6_bitCount_0f7a4_48 rfl rfl ?_
  refine v_at (pc9 := 49) rfl ?_
  refine v_bipush (v := 63) C dJ6_bitCount_0f7a4_49 (by decide) ?_
  refine v_iand C dJ6_bitCount_0f7a4_51 ?_
  exact v_iret C hr dJ6_bitCount_0f7a4_52 (Nat.le_refl _) (Nat.le_refl _) ⟨_, rfl, ⟨rfl, rfl⟩⟩
