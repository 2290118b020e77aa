/-! the reference: signs, what stands between -/
def sg_of (x : Int32) : Int32 := if x = 4 then 11 else if x = 5 then 12 else if x = 60 then 14 else if x = 61 then 15 else if x = 43 then 16 else if x = 45 then 17 else if x = 42 then 18 else -1
set_option maxHeartbeats 400000 in
set_option maxRecDepth 100000 in
theorem c_X7_signOf (G : am_G) (D : Nat) (A : am_S) (σ : am_M) (B : am_S) (hI : iv_M B σ) (x : Int32) (hx : σ.2.1 65 29 = x) : am_Mt G D mX7_signOf [.ref 65] σ 0 0 (am_q (.int (sg_of x)) σ) := by
  refine am_of moX7_signOf (Nat.le_of_ble_eq_true rfl) ?_
  show am_Ev G mX7_signOf (am_R D 0 0) 0 0 (am_q (.int (sg_of x)) σ) 0 [(0, .ref 65)] [] σ 0 0
  refine ev_aload_n dX7_signOf_0 rfl rfl ?_
  refine ev_getI (v := x) dX7_signOf_1 fl_X7_113 (ly_k hI.ly 65 rfl) hx ?_
  refine ev_iconst (v := 4) dX7_signOf_4 (by decide) ?_
  refine ev_icmp_ne (tgt := 13) dX7_signOf_5 (by decide) (fun c1 => ?_) (fun c1 => ?_)
  · skip
    refine ev_aload_n dX7_signOf_13 rfl rfl ?_
    refine ev_getI (v := x) dX7_signOf_14 fl_X7_113 (ly_k hI.ly 65 rfl) hx ?_
    refine ev_iconst (v := 5) dX7_signOf_17 (by decide) ?_
    refine ev_icmp_ne (tgt := 26) dX7_signOf_18 (by decide) (fun c2 => ?_) (fun c2 => ?_)
    · skip
      refine ev_aload_n dX7_signOf_26 rfl rfl ?_
      refine ev_getI (v := x) dX7_signOf_27 fl_X7_113 (ly_k hI.ly 65 rfl) hx ?_
      refine ev_bipush (v := 60) dX7_signOf_30 (by decide) ?_
      refine ev_icmp_ne (tgt := 40) dX7_signOf_32 (by decide) (fun c3 => ?_) (fun c3 => ?_)
      · skip
        refine ev_aload_n dX7_signOf_40 rfl rfl ?_
        refine ev_getI (v := x) dX7_signOf_41 fl_X7_113 (ly_k hI.ly 65 rfl) hx ?_
        refine ev_bipush (v := 61) dX7_signOf_44 (by decide) ?_
        refine ev_icmp_ne (tgt := 54) dX7_signOf_46 (by decide) (fun c4 => ?_) (fun c4 => ?_)
        · skip
          refine ev_aload_n dX7_signOf_54 rfl rfl ?_
          refine ev_getI (v := x) dX7_signOf_55 fl_X7_113 (ly_k hI.ly 65 rfl) hx ?_
          refine ev_bipush (v := 43) dX7_signOf_58 (by decide) ?_
          refine ev_icmp_ne (tgt := 68) dX7_signOf_60 (by decide) (fun c5 => ?_) (fun c5 => ?_)
          · skip
            refine ev_aload_n dX7_signOf_68 rfl rfl ?_
            refine ev_getI (v := x) dX7_signOf_69 fl_X7_113 (ly_k hI.ly 65 rfl) hx ?_
            refine ev_bipush (v := 45) dX7_signOf_72 (by decide) ?_
            refine ev_icmp_ne (tgt := 82) dX7_signOf_74 (by decide) (fun c6 => ?_) (fun c6 => ?_)
            · skip
              refine ev_aload_n dX7_signOf_82 rfl rfl ?_
              refine ev_getI (v := x) dX7_signOf_83 fl_X7_113 (ly_k hI.ly 65 rfl) hx ?_
              refine ev_bipush (v := 42) dX7_signOf_86 (by decide) ?_
              refine ev_icmp_ne (tgt := 96) dX7_signOf_88 (by decide) (fun c7 => ?_) (fun c7 => ?_)
              · skip
                refine ev_iconst (v := (-1)) dX7_signOf_96 (by decide) ?_
                refine ev_reti dX7_signOf_97 rfl (Nat.zero_le _) (Nat.zero_le _) ?_
                exact ⟨by simp [sg_of, c1, c2, c3, c4, c5, c6, c7], rfl⟩
              · skip
                refine ev_bipush (v := 18) dX7_signOf_91 (by decide) ?_
                refine ev_goto (tgt := 97) dX7_signOf_93 (by decide) ?_
                refine ev_reti dX7_signOf_97 rfl (Nat.zero_le _) (Nat.zero_le _) ?_
                exact ⟨by simp [sg_of, c1, c2, c3, c4, c5, c6, c7], rfl⟩
            · skip
              refine ev_bipush (v := 17) dX7_signOf_77 (by decide) ?_
              refine ev_goto (tgt := 97) dX7_signOf_79 (by decide) ?_
              refine ev_reti dX7_signOf_97 rfl (Nat.zero_le _) (Nat.zero_le _) ?_
              exact ⟨by simp [sg_of, c1, c2, c3, c4, c5, c6], rfl⟩
          · skip
            refine ev_bipush (v := 16) dX7_signOf_63 (by decide) ?_
            refine ev_goto (tgt := 97) dX7_signOf_65 (by decide) ?_
            refine ev_reti dX7_signOf_97 rfl (Nat.zero_le _) (Nat.zero_le _) ?_
            exact ⟨by simp [sg_of, c1, c2, c3, c4, c5], rfl⟩
        · skip
          refine ev_bipush (v := 15) dX7_signOf_49 (by decide) ?_
          refine ev_goto (tgt := 97) dX7_signOf_51 (by decide) ?_
          refine ev_reti dX7_signOf_97 rfl (Nat.zero_le _) (Nat.zero_le _) ?_
          exact ⟨by simp [sg_of, c1, c2, c3, c4], rfl⟩
      · skip
        refine ev_bipush (v := 14) dX7_signOf_35 (by decide) ?_
        refine ev_goto (tgt := 97) dX7_signOf_37 (by decide) ?_
        refine ev_reti dX7_signOf_97 rfl (Nat.zero_le _) (Nat.zero_le _) ?_
        exact ⟨by simp [sg_of, c1, c2, c3], rfl⟩
    · skip
      refine ev_bipush (v := 12) dX7_signOf_21 (by decide) ?_
      refine ev_goto (tgt := 97) dX7_signOf_23 (by decide) ?_
      refine ev_reti dX7_signOf_97 rfl (Nat.zero_le _) (Nat.zero_le _) ?_
      exact ⟨by simp [sg_of, c1, c2], rfl⟩
  · skip
    refine ev_bipush (v := 11) dX7_signOf_8 (by decide) ?_
    refine ev_goto (tgt := 97) dX7_signOf_10 (by decide) ?_
    refine ev_reti dX7_signOf_97 rfl (Nat.zero_le _) (Nat.zero_le _) ?_
    exact ⟨by simp [sg_of, c1], rfl⟩

