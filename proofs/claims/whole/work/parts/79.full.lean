section X8L1
variable {G : wG} {m : Nat} {F : Nat → Int32} {O : Nat → Option Nat} {R : Nat → Nat → Int32} {h0 : Nat → Option wE} {sz : Nat}
set_option maxHeartbeats 4000000 in
theorem c2_addF {x y : Int32} (hl : F 0 = nI 8) : Sat G mX2_add [.ref m, .int x, .int y] (pph m F O R h0, sz) (Det (some (.int (-1))) (pph m F O R h0, sz)) := by
  refine Sat.of (by decide) [some (.ref m), some (.int x), some (.int y), none] rfl rfl (fun X => ?_)
  refine ww_aload_n dX2_add_0 rfl rfl ?_
  refine pp_geti dX2_add_1 fX2_9 rfl rfl ?_
  refine ww_istore_n dX2_add_4 rfl rfl rfl ?_
  refine ww_iload_n dX2_add_5 rfl rfl ?_
  refine ww_if_lt (tgt := 15) dX2_add_6 (by decide) (fun c6 => ?_) (fun c6 => ?_)
  · exact absurd c6 (by rw [hl]; exact nI_pos (by omega))
  · refine ww_iload_n dX2_add_9 rfl rfl ?_
    refine ww_bipush (v := 8) dX2_add_10 (by decide) ?_
    refine ww_icmp_lt (tgt := 17) dX2_add_12 (by decide) (fun c12 => ?_) (fun c12 => ?_)
    · exact absurd c12 (by rw [hl]; decide)
    · refine ww_iconst (v := -1) dX2_add_15 (by decide) ?_
      exact ww_iret dX2_add_16 rfl ⟨rfl, rfl⟩ (Nat.zero_le _) (Nat.zero_le _)
end X8L1
section X8L
variable {G : wG} {Λ : wL} {x mr mt mp mk mw ma : Nat} {F : Nat → Nat → Int32} {O : Nat → Nat → Option Nat} {R : Nat → Nat → Nat → Int32} {h0 : Nat → Option wE} {sz : Nat}
set_option maxHeartbeats 4000000 in
theorem c8_personF (H : hH Λ O x mr mt mp mk mw ma) {y z : Int32} (hl : F 4 0 = nI 8) (hy : inR y 0 63 = true) (hz : inR z 1 9 = true) : Sat G mX8_person [.ref x, .int y, .int z] (wld Λ F O R h0, sz) (Det (some (.int (-1))) (wld Λ F O R h0, sz)) := by
  refine Sat.of (by decide) [some (.ref x), some (.int y), some (.int z)] rfl rfl (fun X => ?_)
  have hy := of_decide_eq_true hy
  have hz := of_decide_eq_true hz
  have e0 : (0 : Int32).toInt = 0 := rfl
  have e1 : (1 : Int32).toInt = 1 := rfl
  have e63 : (63 : Int32).toInt = 63 := rfl
  have e9 : (9 : Int32).toInt = 9 := rfl
  refine ww_iload_n dX8_person_0 rfl rfl ?_
  refine ww_if_lt (tgt := 21) dX8_person_1 (by decide) (fun c1 => ?_) (fun c1 => ?_)
  · exact absurd c1 (fun q => by have := Int32.lt_iff_toInt_lt.mp q; omega)
  · refine ww_iload_n dX8_person_4 rfl rfl ?_
    refine ww_bipush (v := 63) dX8_person_5 (by decide) ?_
    refine ww_icmp_gt (tgt := 21) dX8_person_7 (by decide) (fun c7 => ?_) (fun c7 => ?_)
    · exact absurd c7 (fun q => by have := Int32.lt_iff_toInt_lt.mp q; omega)
    · refine ww_iload_n dX8_person_10 rfl rfl ?_
      refine ww_iconst (v := 1) dX8_person_11 (by decide) ?_
      refine ww_icmp_lt (tgt := 21) dX8_person_12 (by decide) (fun c12 => ?_) (fun c12 => ?_)
      · exact absurd c12 (fun q => by have := Int32.lt_iff_toInt_lt.mp q; omega)
      · refine ww_iload_n dX8_person_15 rfl rfl ?_
        refine ww_bipush (v := 9) dX8_person_16 (by decide) ?_
        refine ww_icmp_le (tgt := 23) dX8_person_18 (by decide) (fun c18 => ?_) (fun c18 => ?_)
        · refine ww_aload_n dX8_person_23 rfl rfl ?_
          refine Wxx_geto H.1 dX8_person_24 fX8_19 rfl rfl H.2.2.2.2.2.2.2.2.1 ?_
          refine ww_iload_n dX8_person_27 rfl rfl ?_
          refine ww_iload_n dX8_person_28 rfl rfl ?_
          refine Wpp_call1 H.2.2.2.1 dX8_person_29 kX8_88 rfl rfl (pp_l0 H.2.2.2.1 (c2_addF hl)) rfl rfl rfl rfl rfl rfl (Nat.zero_le _) (Nat.zero_le _) ?_
          exact ww_iret dX8_person_32 rfl ⟨rfl, rfl⟩ (Nat.zero_le _) (Nat.zero_le _)
        · exact absurd c18 (fun q => q (Int32.le_iff_toInt_le.mpr (by omega)))
end X8L
