abbrev mj_coder : wM := (yJ0_coder_7d493, cJ0_coder_7d493, 1, (some .byte), 1, 0, 0)
abbrev mj_latin : wM := (yJ0_isLatin1_aae02, cJ0_isLatin1_aae02, 1, (some .boolean), 1, 0, 0)
abbrev mj_length : wM := (yJ0_length_8abf5, cJ0_length_8abf5, 1, (some .int), 2, 0, 0)
abbrev mj_pre : wM := (yJ3_checkIndex_8e157, cJ3_checkIndex_8e157, 3, (some .int), 1, 0, 0)
abbrev mj_chk : wM := (yJ0_checkIndex_df160, cJ0_checkIndex_df160, 2, none, 2, 0, 0)
abbrev mj_lat : wM := (yJ1_charAt_3b067, cJ1_charAt_3b067, 2, (some .char), 3, 0, 0)
abbrev mj_char : wM := (yJ0_charAt_5068e, cJ0_charAt_5068e, 2, (some .char), 4, 0, 0)
theorem dJ0_length_8abf5_0 : decode cJ0_length_8abf5 0 = .ok (.aload_n 0, 1) := by decide +kernel
theorem dJ0_length_8abf5_1 : decode cJ0_length_8abf5 1 = .ok (.getfield 9, 3) := by decide +kernel
theorem dJ0_length_8abf5_4 : decode cJ0_length_8abf5 4 = .ok (.arraylength, 1) := by decide +kernel
theorem dJ0_length_8abf5_5 : decode cJ0_length_8abf5 5 = .ok (.aload_n 0, 1) := by decide +kernel
theorem dJ0_length_8abf5_6 : decode cJ0_length_8abf5 6 = .ok (.invokevirtual 335, 3) := by decide +kernel
theorem dJ0_length_8abf5_9 : decode cJ0_length_8abf5 9 = .ok (.ishr, 1) := by decide +kernel
theorem dJ0_length_8abf5_10 : decode cJ0_length_8abf5 10 = .ok (.ireturn, 1) := by decide +kernel
theorem dJ0_charAt_5068e_0 : decode cJ0_charAt_5068e 0 = .ok (.aload_n 0, 1) := by decide +kernel
theorem dJ0_charAt_5068e_1 : decode cJ0_charAt_5068e 1 = .ok (.invokevirtual 492, 3) := by decide +kernel
theorem dJ0_charAt_5068e_4 : decode cJ0_charAt_5068e 4 = .ok (.ifCond .eq 12, 3) := by decide +kernel
theorem dJ0_charAt_5068e_7 : decode cJ0_charAt_5068e 7 = .ok (.aload_n 0, 1) := by decide +kernel
theorem dJ0_charAt_5068e_8 : decode cJ0_charAt_5068e 8 = .ok (.getfield 9, 3) := by decide +kernel
theorem dJ0_charAt_5068e_11 : decode cJ0_charAt_5068e 11 = .ok (.iload_n 1, 1) := by decide +kernel
theorem dJ0_charAt_5068e_12 : decode cJ0_charAt_5068e 12 = .ok (.invokestatic 495, 3) := by decide +kernel
theorem dJ0_charAt_5068e_15 : decode cJ0_charAt_5068e 15 = .ok (.ireturn, 1) := by decide +kernel
theorem dJ0_charAt_5068e_16 : decode cJ0_charAt_5068e 16 = .ok (.aload_n 0, 1) := by decide +kernel
theorem dJ0_charAt_5068e_17 : decode cJ0_charAt_5068e 17 = .ok (.getfield 9, 3) := by decide +kernel
theorem dJ0_charAt_5068e_20 : decode cJ0_charAt_5068e 20 = .ok (.iload_n 1, 1) := by decide +kernel
theorem dJ0_charAt_5068e_21 : decode cJ0_charAt_5068e 21 = .ok (.invokestatic 498, 3) := by decide +kernel
theorem dJ0_charAt_5068e_24 : decode cJ0_charAt_5068e 24 = .ok (.ireturn, 1) := by decide +kernel
theorem dJ0_coder_7d493_0 : decode cJ0_coder_7d493 0 = .ok (.getstatic 38, 3) := by decide +kernel
theorem dJ0_coder_7d493_3 : decode cJ0_coder_7d493 3 = .ok (.ifCond .eq 10, 3) := by decide +kernel
theorem dJ0_coder_7d493_6 : decode cJ0_coder_7d493 6 = .ok (.aload_n 0, 1) := by decide +kernel
theorem dJ0_coder_7d493_7 : decode cJ0_coder_7d493 7 = .ok (.getfield 15, 3) := by decide +kernel
theorem dJ0_coder_7d493_10 : decode cJ0_coder_7d493 10 = .ok (.goto 4, 3) := by decide +kernel
theorem dJ0_coder_7d493_13 : decode cJ0_coder_7d493 13 = .ok (.iconst 1, 1) := by decide +kernel
theorem dJ0_coder_7d493_14 : decode cJ0_coder_7d493 14 = .ok (.ireturn, 1) := by decide +kernel
theorem dJ0_isLatin1_aae02_0 : decode cJ0_isLatin1_aae02 0 = .ok (.getstatic 38, 3) := by decide +kernel
theorem dJ0_isLatin1_aae02_3 : decode cJ0_isLatin1_aae02 3 = .ok (.ifCond .eq 14, 3) := by decide +kernel
theorem dJ0_isLatin1_aae02_6 : decode cJ0_isLatin1_aae02 6 = .ok (.aload_n 0, 1) := by decide +kernel
theorem dJ0_isLatin1_aae02_7 : decode cJ0_isLatin1_aae02 7 = .ok (.getfield 15, 3) := by decide +kernel
theorem dJ0_isLatin1_aae02_10 : decode cJ0_isLatin1_aae02 10 = .ok (.ifCond .ne 7, 3) := by decide +kernel
theorem dJ0_isLatin1_aae02_13 : decode cJ0_isLatin1_aae02 13 = .ok (.iconst 1, 1) := by decide +kernel
theorem dJ0_isLatin1_aae02_14 : decode cJ0_isLatin1_aae02 14 = .ok (.goto 4, 3) := by decide +kernel
theorem dJ0_isLatin1_aae02_17 : decode cJ0_isLatin1_aae02 17 = .ok (.iconst 0, 1) := by decide +kernel
theorem dJ0_isLatin1_aae02_18 : decode cJ0_isLatin1_aae02 18 = .ok (.ireturn, 1) := by decide +kernel
theorem dJ0_checkIndex_df160_0 : decode cJ0_checkIndex_df160 0 = .ok (.iload_n 0, 1) := by decide +kernel
theorem dJ0_checkIndex_df160_1 : decode cJ0_checkIndex_df160 1 = .ok (.iload_n 1, 1) := by decide +kernel
theorem dJ0_checkIndex_df160_2 : decode cJ0_checkIndex_df160 2 = .ok (.getstatic 1053, 3) := by decide +kernel
theorem dJ0_checkIndex_df160_5 : decode cJ0_checkIndex_df160 5 = .ok (.invokestatic 1059, 3) := by decide +kernel
theorem dJ0_checkIndex_df160_8 : decode cJ0_checkIndex_df160 8 = .ok (.pop, 1) := by decide +kernel
theorem dJ0_checkIndex_df160_9 : decode cJ0_checkIndex_df160 9 = .ok (.return_, 1) := by decide +kernel
theorem dJ1_charAt_3b067_0 : decode cJ1_charAt_3b067 0 = .ok (.iload_n 1, 1) := by decide +kernel
theorem dJ1_charAt_3b067_1 : decode cJ1_charAt_3b067 1 = .ok (.aload_n 0, 1) := by decide +kernel
theorem dJ1_charAt_3b067_2 : decode cJ1_charAt_3b067 2 = .ok (.arraylength, 1) := by decide +kernel
theorem dJ1_charAt_3b067_3 : decode cJ1_charAt_3b067 3 = .ok (.invokestatic 9, 3) := by decide +kernel
theorem dJ1_charAt_3b067_6 : decode cJ1_charAt_3b067 6 = .ok (.aload_n 0, 1) := by decide +kernel
theorem dJ1_charAt_3b067_7 : decode cJ1_charAt_3b067 7 = .ok (.iload_n 1, 1) := by decide +kernel
theorem dJ1_charAt_3b067_8 : decode cJ1_charAt_3b067 8 = .ok (.baload, 1) := by decide +kernel
theorem dJ1_charAt_3b067_9 : decode cJ1_charAt_3b067 9 = .ok (.sipush 255, 3) := by decide +kernel
theorem dJ1_charAt_3b067_12 : decode cJ1_charAt_3b067 12 = .ok (.iand, 1) := by decide +kernel
theorem dJ1_charAt_3b067_13 : decode cJ1_charAt_3b067 13 = .ok (.i2c, 1) := by decide +kernel
theorem dJ1_charAt_3b067_14 : decode cJ1_charAt_3b067 14 = .ok (.ireturn, 1) := by decide +kernel
theorem dJ3_checkIndex_8e157_0 : decode cJ3_checkIndex_8e157 0 = .ok (.iload_n 0, 1) := by decide +kernel
theorem dJ3_checkIndex_8e157_1 : decode cJ3_checkIndex_8e157 1 = .ok (.ifCond .lt 8, 3) := by decide +kernel
theorem dJ3_checkIndex_8e157_4 : decode cJ3_checkIndex_8e157 4 = .ok (.iload_n 0, 1) := by decide +kernel
theorem dJ3_checkIndex_8e157_5 : decode cJ3_checkIndex_8e157 5 = .ok (.iload_n 1, 1) := by decide +kernel
theorem dJ3_checkIndex_8e157_6 : decode cJ3_checkIndex_8e157 6 = .ok (.if_icmp .lt 10, 3) := by decide +kernel
theorem dJ3_checkIndex_8e157_9 : decode cJ3_checkIndex_8e157 9 = .ok (.aload_n 2, 1) := by decide +kernel
theorem dJ3_checkIndex_8e157_10 : decode cJ3_checkIndex_8e157 10 = .ok (.iload_n 0, 1) := by decide +kernel
theorem dJ3_checkIndex_8e157_11 : decode cJ3_checkIndex_8e157 11 = .ok (.iload_n 1, 1) := by decide +kernel
theorem dJ3_checkIndex_8e157_12 : decode cJ3_checkIndex_8e157 12 = .ok (.invokestatic 95, 3) := by decide +kernel
theorem dJ3_checkIndex_8e157_15 : decode cJ3_checkIndex_8e157 15 = .ok (.athrow, 1) := by decide +kernel
theorem dJ3_checkIndex_8e157_16 : decode cJ3_checkIndex_8e157 16 = .ok (.iload_n 0, 1) := by decide +kernel
theorem dJ3_checkIndex_8e157_17 : decode cJ3_checkIndex_8e157 17 = .ok (.ireturn, 1) := by decide +kernel
theorem lj_coder : wCv RJ0 335 mj_coder 0 := ⟨⟨(wTb_mem 106 (by decide +kernel) rfl), (wTb_mem 65 (by decide +kernel) rfl), (wTb_mem 109 (by decide +kernel) rfl), by decide +kernel, by decide +kernel, by decide +kernel⟩, (wTb_mem 107 (by decide +kernel) rfl), (wTb_mem 108 (by decide +kernel) rfl)⟩
theorem lj_latin : wCv RJ0 492 mj_latin 0 := ⟨⟨(wTb_mem 116 (by decide +kernel) rfl), (wTb_mem 65 (by decide +kernel) rfl), (wTb_mem 119 (by decide +kernel) rfl), by decide +kernel, by decide +kernel, by decide +kernel⟩, (wTb_mem 117 (by decide +kernel) rfl), (wTb_mem 118 (by decide +kernel) rfl)⟩
theorem lj_lat : wCs RJ0 495 mj_lat 2 := ⟨⟨(wTb_mem 120 (by decide +kernel) rfl), (wTb_mem 66 (by decide +kernel) rfl), (wTb_mem 122 (by decide +kernel) rfl), by decide +kernel, by decide +kernel, by decide +kernel⟩, (wTb_mem 121 (by decide +kernel) rfl)⟩
theorem lj_chk : wCs RJ1 9 mj_chk 2 := ⟨⟨(wTb_mem 123 (by decide +kernel) rfl), (wTb_mem 65 (by decide +kernel) rfl), (wTb_mem 125 (by decide +kernel) rfl), by decide +kernel, by decide +kernel, by decide +kernel⟩, (wTb_mem 124 (by decide +kernel) rfl)⟩
theorem lj_pre : wCs RJ0 1059 mj_pre 3 := ⟨⟨(wTb_mem 128 (by decide +kernel) rfl), (wTb_mem 67 (by decide +kernel) rfl), (wTb_mem 130 (by decide +kernel) rfl), by decide +kernel, by decide +kernel, by decide +kernel⟩, (wTb_mem 129 (by decide +kernel) rfl)⟩
theorem lj_length : wCv RX5 93 mj_length 0 := ⟨⟨(wTb_mem 102 (by decide +kernel) rfl), (wTb_mem 65 (by decide +kernel) rfl), (wTb_mem 105 (by decide +kernel) rfl), by decide +kernel, by decide +kernel, by decide +kernel⟩, (wTb_mem 103 (by decide +kernel) rfl), (wTb_mem 104 (by decide +kernel) rfl)⟩
theorem lj_char : wCv RX5 97 mj_char 1 := ⟨⟨(wTb_mem 112 (by decide +kernel) rfl), (wTb_mem 65 (by decide +kernel) rfl), (wTb_mem 115 (by decide +kernel) rfl), by decide +kernel, by decide +kernel, by decide +kernel⟩, (wTb_mem 113 (by decide +kernel) rfl), (wTb_mem 114 (by decide +kernel) rfl)⟩
theorem lf_cs : Cond.fieldLink RJ0 38 "java/lang/String" "COMPACT_STRINGS" "Z" ∈ wTb := (wTb_mem 110 (by decide +kernel) rfl)
theorem lf_val : Cond.fieldLink RJ0 9 "java/lang/String" "value" "[B" ∈ wTb := (wTb_mem 1343 (by decide +kernel) rfl)
theorem lf_cod : Cond.fieldLink RJ0 15 "java/lang/String" "coder" "B" ∈ wTb := (wTb_mem 1344 (by decide +kernel) rfl)
theorem lf_si : Cond.fieldLink RJ0 1053 "jdk/internal/util/Preconditions" "SIOOBE_FORMATTER" "Ljava/util/function/BiFunction;" ∈ wTb := (wTb_mem 126 (by decide +kernel) rfl)
def sLn : List Nat := [2, 4, 3, 4, 4, 2, 4, 5, 3]
def sBy : List (List Int32) := [[100, 111], [114, 111, 108, 101], [100, 117, 101], [101, 121, 101, 115], [98, 111, 116, 104], [105, 102], [101, 108, 115, 101], [97, 103, 97, 105, 110], [115, 101, 116]]
def sIx : List Nat := [35, 41, 43, 45, 47, 49, 51, 53, 55]
def sTx : List String := ["do", "role", "due", "eyes", "both", "if", "else", "again", "set"]
/-- the String constants and the two statics, at any state of the run -/
def sE (B : Nat) (adK adV : Nat → Nat) (zz : Option Nat) (U : State) : Prop := vk_S 9 sLn sBy adK adV (fun q => B ≤ q) U U.heap ∧ (∀ i, i < 9 → vk_R RX5 (sIx.getD i 0) (sTx.getD i "") (adK i) U) ∧ va_Z "java/lang/String" "COMPACT_STRINGS" "Z" (.int 1) (fun q => B ≤ q) U U.heap ∧ va_Z "jdk/internal/util/Preconditions" "SIOOBE_FORMATTER" "Ljava/util/function/BiFunction;" (va_rf zz) (fun q => B ≤ q) U U.heap ∧ va_AO "TaskHouse$Run" U
section STR0
variable {G : wG} {M : wM} {cc : ByteArray} {X : wX} {Z : State → Prop} {Q : Option Value → wH → Prop} {pc : Nat} {lv : List (Option Value)} {st : List Value} {h : wH} {k n : Nat}
theorem ww_nret {v : Int32} {ty : FieldType} (hd : decode cc pc = .ok (.ireturn, 1)) (hret : M.2.2.2.1 = some ty) (hz : narrow ty (.int v) = .int v) (hq : Q (some (.int v)) h) (hk : k ≤ M.2.2.2.2.2.1) (hn : n ≤ M.2.2.2.2.2.2) : WW G M cc X (wZ G M X Q) pc lv [.int v] h k n := by
  obtain ⟨p, e, R, s, m, args, below, meth, c⟩ := X
  intro O H locs ls hR hS hl
  obtain ⟨hx, hb, hml, hr, hown, hts, hlk, hnm, hK, hroom, hB, hE, hSt⟩ := O
  refine W.widen hk hn ?_
  exact W.zret hx hb (hr.trans hret) hz (fun t ht hW => w_post hq hR hS ht hW) hS.2.2 hd
theorem ww_i2c {x v : Int32} (hd : decode cc pc = .ok (.i2c, 1)) (hv : (x.toUInt32 % 65536).toInt32 = v) (kk : WW G M cc X Z (pc + 1) lv (.int v :: st) h k n) : WW G M cc X Z pc lv (.int x :: st) h k n := by
  obtain ⟨p, e, R, s, m, args, below, meth, c⟩ := X
  intro O H locs ls hR hS hl
  exact lv_i2c O.1 O.2.1 hd hv (kk O H locs ls hR hS hl)
end STR0
section STR1
variable {G : wG} {adK adV : Nat → Nat} {zz : Option Nat}
theorem cj_coder (hE : ∀ U, G.2.2.2 U → sE G.2.2.1 adK adV zz U) {i : Nat} (hi : i < 9) {h : wH} : Sat G mj_coder [.ref (adK i)] h (Det (some (.int 0)) h) := by
  refine Sat.of (by decide) [some (.ref (adK i))] rfl rfl (fun X => ?_)
  refine ww_getZ dJ0_coder_7d493_0 lf_cs (fun U q => (hE U q).2.2.1) ?_
  refine ww_if_eq (tgt := 13) dJ0_coder_7d493_3 (by decide) (fun c => absurd c (by decide)) (fun _ => ?_)
  refine ww_aload_n dJ0_coder_7d493_6 rfl rfl ?_
  refine ww_getS dJ0_coder_7d493_7 lf_cod (fun U q => ((hE U q).1.1 i hi).2.1) ?_
  refine ww_goto (tgt := 14) dJ0_coder_7d493_10 (by decide) ?_
  exact ww_nret dJ0_coder_7d493_14 rfl rfl ⟨rfl, rfl⟩ (Nat.zero_le _) (Nat.zero_le _)
theorem cj_latin (hE : ∀ U, G.2.2.2 U → sE G.2.2.1 adK adV zz U) {i : Nat} (hi : i < 9) {h : wH} : Sat G mj_latin [.ref (adK i)] h (Det (some (.int 1)) h) := by
  refine Sat.of (by decide) [some (.ref (adK i))] rfl rfl (fun X => ?_)
  refine ww_getZ dJ0_isLatin1_aae02_0 lf_cs (fun U q => (hE U q).2.2.1) ?_
  refine ww_if_eq (tgt := 17) dJ0_isLatin1_aae02_3 (by decide) (fun c => absurd c (by decide)) (fun _ => ?_)
  refine ww_aload_n dJ0_isLatin1_aae02_6 rfl rfl ?_
  refine ww_getS dJ0_isLatin1_aae02_7 lf_cod (fun U q => ((hE U q).1.1 i hi).2.1) ?_
  refine ww_if_ne (tgt := 17) dJ0_isLatin1_aae02_10 (by decide) (fun c => absurd rfl c) (fun _ => ?_)
  refine ww_iconst (v := 1) dJ0_isLatin1_aae02_13 (by decide) ?_
  refine ww_goto (tgt := 18) dJ0_isLatin1_aae02_14 (by decide) ?_
  exact ww_zret dJ0_isLatin1_aae02_18 rfl (Or.inr rfl) ⟨rfl, rfl⟩ (Nat.zero_le _) (Nat.zero_le _)
theorem cj_length (hE : ∀ U, G.2.2.2 U → sE G.2.2.1 adK adV zz U) {i : Nat} (hi : i < 9) {h : wH} : Sat G mj_length [.ref (adK i)] h (Det (some (.int (nI (sLn.getD i 0)))) h) := by
  refine Sat.of (by decide) [some (.ref (adK i))] rfl rfl (fun X => ?_)
  refine ww_aload_n dJ0_length_8abf5_0 rfl rfl ?_
  refine ww_getS dJ0_length_8abf5_1 lf_val (fun U q => ((hE U q).1.1 i hi).2.2.1) ?_
  refine ww_lenT dJ0_length_8abf5_4 (fun U q => ((hE U q).1.1 i hi).2.2.2) (v := nI (sLn.getD i 0)) rfl ?_
  refine ww_aload_n dJ0_length_8abf5_5 rfl rfl ?_
  refine ww_callO (As := []) (st := [.int (nI (sLn.getD i 0))]) dJ0_length_8abf5_6 lj_coder (fun U q => ((hE U q).1.1 i hi).1) (cj_coder hE hi) rfl rfl rfl rfl rfl (Nat.zero_le _) (Nat.zero_le _) ?_
  rintro v h' ⟨rfl, rfl⟩
  refine ww_ishr dJ0_length_8abf5_9 ?_
  have e : nI (sLn.getD i 0) >>> ((0 : Int32) &&& 31) = nI (sLn.getD i 0) := (by decide : ∀ i, i < 9 → nI (sLn.getD i 0) >>> ((0 : Int32) &&& 31) = nI (sLn.getD i 0)) i hi
  rw [e]
  exact ww_iret dJ0_length_8abf5_10 rfl ⟨rfl, rfl⟩ (Nat.zero_le _) (Nat.zero_le _)
theorem cj_pre {x y : Int32} {z : Option Nat} (h0 : ¬ x < 0) (h1 : x < y) {h : wH} : Sat G mj_pre [.int x, .int y, va_rf z] h (Det (some (.int x)) h) := by
  cases z with
  | none =>
    refine Sat.of (by decide) [some (.int x), some (.int y), some .null] rfl rfl (fun X => ?_)
    refine ww_iload_n dJ3_checkIndex_8e157_0 rfl rfl ?_
    refine ww_if_lt (tgt := 9) dJ3_checkIndex_8e157_1 (by decide) (fun c => absurd c h0) (fun _ => ?_)
    refine ww_iload_n dJ3_checkIndex_8e157_4 rfl rfl ?_
    refine ww_iload_n dJ3_checkIndex_8e157_5 rfl rfl ?_
    refine ww_icmp_lt (tgt := 16) dJ3_checkIndex_8e157_6 (by decide) (fun _ => ?_) (fun c => absurd h1 c)
    refine ww_iload_n dJ3_checkIndex_8e157_16 rfl rfl ?_
    exact ww_iret dJ3_checkIndex_8e157_17 rfl ⟨rfl, rfl⟩ (Nat.zero_le _) (Nat.zero_le _)
  | some z =>
    refine Sat.of (by decide) [some (.int x), some (.int y), some (.ref z)] rfl rfl (fun X => ?_)
    refine ww_iload_n dJ3_checkIndex_8e157_0 rfl rfl ?_
    refine ww_if_lt (tgt := 9) dJ3_checkIndex_8e157_1 (by decide) (fun c => absurd c h0) (fun _ => ?_)
    refine ww_iload_n dJ3_checkIndex_8e157_4 rfl rfl ?_
    refine ww_iload_n dJ3_checkIndex_8e157_5 rfl rfl ?_
    refine ww_icmp_lt (tgt := 16) dJ3_checkIndex_8e157_6 (by decide) (fun _ => ?_) (fun c => absurd h1 c)
    refine ww_iload_n dJ3_checkIndex_8e157_16 rfl rfl ?_
    exact ww_iret dJ3_checkIndex_8e157_17 rfl ⟨rfl, rfl⟩ (Nat.zero_le _) (Nat.zero_le _)
theorem cj_chk (hE : ∀ U, G.2.2.2 U → sE G.2.2.1 adK adV zz U) {x y : Int32} (h0 : ¬ x < 0) (h1 : x < y) {h : wH} : Sat G mj_chk [.int x, .int y] h (Det none h) := by
  refine Sat.of (by decide) [some (.int x), some (.int y)] rfl rfl (fun X => ?_)
  refine ww_iload_n dJ0_checkIndex_df160_0 rfl rfl ?_
  refine ww_iload_n dJ0_checkIndex_df160_1 rfl rfl ?_
  refine ww_getZ dJ0_checkIndex_df160_2 lf_si (fun U q => (hE U q).2.2.2.1) ?_
  refine ww_callS (As := [.int x, .int y, va_rf zz]) (st := []) dJ0_checkIndex_df160_5 lj_pre (cj_pre h0 h1) rfl rfl rfl rfl rfl (Nat.zero_le _) (Nat.zero_le _) ?_
  rintro v h' ⟨rfl, rfl⟩
  refine ww_pop dJ0_checkIndex_df160_8 rfl ?_
  exact ww_vret dJ0_checkIndex_df160_9 rfl ⟨rfl, rfl⟩ (Nat.zero_le _) (Nat.zero_le _)
theorem s_ch : ∀ i, i < 9 → ∀ j, j < sLn.getD i 0 → ((((sBy.getD i []).getD j 0) &&& 255).toUInt32 % 65536).toInt32 = (sBy.getD i []).getD j 0 ∧ narrow .char (.int ((sBy.getD i []).getD j 0)) = .int ((sBy.getD i []).getD j 0) := by decide
theorem s_ln : ∀ i, i < 9 → sLn.getD i 0 < 10 := by decide
theorem cj_lat (hE : ∀ U, G.2.2.2 U → sE G.2.2.1 adK adV zz U) {i j : Nat} (hi : i < 9) (hj : j < sLn.getD i 0) {h : wH} : Sat G mj_lat [.ref (adV i), .int (nI j)] h (Det (some (.int ((sBy.getD i []).getD j 0))) h) := by
  have hl := s_ln i hi
  refine Sat.of (by decide) [some (.ref (adV i)), some (.int (nI j))] rfl rfl (fun X => ?_)
  refine ww_iload_n dJ1_charAt_3b067_0 rfl rfl ?_
  refine ww_aload_n dJ1_charAt_3b067_1 rfl rfl ?_
  refine ww_lenT dJ1_charAt_3b067_2 (fun U q => ((hE U q).1.1 i hi).2.2.2) (v := nI (sLn.getD i 0)) rfl ?_
  refine ww_callS (As := [.int (nI j), .int (nI (sLn.getD i 0))]) (st := []) dJ1_charAt_3b067_3 lj_chk (cj_chk hE (nI_pos (by omega)) (nI_lt hj (by omega))) rfl rfl rfl rfl rfl (Nat.zero_le _) (Nat.zero_le _) ?_
  rintro v h' ⟨rfl, rfl⟩
  refine ww_aload_n dJ1_charAt_3b067_6 rfl rfl ?_
  refine ww_iload_n dJ1_charAt_3b067_7 rfl rfl ?_
  refine ww_baldT dJ1_charAt_3b067_8 (fun U q => ((hE U q).1.1 i hi).2.2.2) (vp_in_nI hj (by omega)) (v := .int ((sBy.getD i []).getD j 0)) (by show Value.int _ = _; rw [nI_clamp (by omega)]) ?_
  refine ww_sipush (v := 255) dJ1_charAt_3b067_9 (by decide) ?_
  refine ww_iand dJ1_charAt_3b067_12 ?_
  refine ww_i2c dJ1_charAt_3b067_13 (s_ch i hi j hj).1 ?_
  exact ww_nret dJ1_charAt_3b067_14 rfl (s_ch i hi j hj).2 ⟨rfl, rfl⟩ (Nat.zero_le _) (Nat.zero_le _)
theorem cj_char (hE : ∀ U, G.2.2.2 U → sE G.2.2.1 adK adV zz U) {i j : Nat} (hi : i < 9) (hj : j < sLn.getD i 0) {h : wH} : Sat G mj_char [.ref (adK i), .int (nI j)] h (Det (some (.int ((sBy.getD i []).getD j 0))) h) := by
  refine Sat.of (by decide) [some (.ref (adK i)), some (.int (nI j))] rfl rfl (fun X => ?_)
  refine ww_aload_n dJ0_charAt_5068e_0 rfl rfl ?_
  refine ww_callO (As := []) (st := []) dJ0_charAt_5068e_1 lj_latin (fun U q => ((hE U q).1.1 i hi).1) (cj_latin hE hi) rfl rfl rfl rfl rfl (Nat.zero_le _) (Nat.zero_le _) ?_
  rintro v h' ⟨rfl, rfl⟩
  refine ww_if_eq (tgt := 16) dJ0_charAt_5068e_4 (by decide) (fun c => absurd c (by decide)) (fun _ => ?_)
  refine ww_aload_n dJ0_charAt_5068e_7 rfl rfl ?_
  refine ww_getS dJ0_charAt_5068e_8 lf_val (fun U q => ((hE U q).1.1 i hi).2.2.1) ?_
  refine ww_iload_n dJ0_charAt_5068e_11 rfl rfl ?_
  refine ww_callS (As := [.ref (adV i), .int (nI j)]) (st := []) dJ0_charAt_5068e_12 lj_lat (cj_lat hE hi hj) rfl rfl rfl rfl rfl (Nat.zero_le _) (Nat.zero_le _) ?_
  rintro v h' ⟨rfl, rfl⟩
  exact ww_nret dJ0_charAt_5068e_15 rfl (s_ch i hi j hj).2 ⟨rfl, rfl⟩ (Nat.zero_le _) (Nat.zero_le _)
/-- the key of the first j letters -/
def kyP (i : Nat) : Nat → Int32
  | 0 => 0
  | j + 1 => kyP i j <<< ((5 : Int32) &&& 31) + (sBy.getD i []).getD j 0 - 97 + 1
theorem kyP_all : ∀ i, i < 9 → kyP i (sLn.getD i 0) = nI (wkN i) := by decide
theorem L5_key (hE : ∀ U, G.2.2.2 U → sE G.2.2.1 adK adV zz U) {i : Nat} (hi : i < 9) {h : wH} {X : wX} : ∀ (n j : Nat), sLn.getD i 0 - j < n → j ≤ sLn.getD i 0 → WW G mX5_keyOf cX5_keyOf X (wZ G mX5_keyOf X (Det (some (.int (nI (wkN i)))) h)) 4 [some (.ref (adK i)), some (.int (kyP i j)), some (.int (nI j))] [] h 0 0 := by
  have hl := s_ln i hi
  intro n
  induction n with
  | zero => intro j h1 h2; omega
  | succ n ih =>
    intro j h1 h2
    refine ww_iload_n dX5_keyOf_4 rfl rfl ?_
    refine ww_aload_n dX5_keyOf_5 rfl rfl ?_
    refine ww_callO (As := []) (st := [.int (nI j)]) dX5_keyOf_6 lj_length (fun U q => ((hE U q).1.1 i hi).1) (cj_length hE hi) rfl rfl rfl rfl rfl (Nat.zero_le _) (Nat.zero_le _) ?_
    rintro v h' ⟨rfl, rfl⟩
    refine ww_icmp_ge (tgt := 28) dX5_keyOf_9 (by decide) (fun c9 => ?_) (fun c9 => ?_)
    · have e : j = sLn.getD i 0 := by
        rcases Nat.lt_or_ge j (sLn.getD i 0) with q | q
        · exact absurd (nI_lt q (by omega)) (Int32.not_lt.mpr c9)
        · omega
      refine ww_iload_n dX5_keyOf_28 rfl rfl ?_
      exact ww_iret dX5_keyOf_29 rfl ⟨by rw [e, kyP_all i hi], rfl⟩ (Nat.zero_le _) (Nat.zero_le _)
    · have hj : j < sLn.getD i 0 := by
        rcases Nat.lt_or_ge j (sLn.getD i 0) with q | q
        · exact q
        · exact absurd (nI_le q (by omega)) c9
      refine ww_iload_n dX5_keyOf_12 rfl rfl ?_
      refine ww_aload_n dX5_keyOf_13 rfl rfl ?_
      refine ww_iload_n dX5_keyOf_14 rfl rfl ?_
      refine ww_callO (As := [.int (nI j)]) (st := [.int (kyP i j)]) dX5_keyOf_15 lj_char (fun U q => ((hE U q).1.1 i hi).1) (cj_char hE hi hj) rfl rfl rfl rfl rfl (Nat.zero_le _) (Nat.zero_le _) ?_
      rintro v h' ⟨rfl, rfl⟩
      refine ww_callS (As := [.int (kyP i j), .int ((sBy.getD i []).getD j 0)]) (st := []) dX5_keyOf_18 kX5_71 c5_withLetter rfl rfl rfl rfl rfl (Nat.zero_le _) (Nat.zero_le _) ?_
      rintro v h' ⟨rfl, rfl⟩
      refine ww_istore_n dX5_keyOf_21 rfl rfl rfl ?_
      refine ww_iinc dX5_keyOf_22 rfl rfl rfl rfl ?_
      refine ww_goto (tgt := 4) dX5_keyOf_25 (by decide) ?_
      have e1 : nI j + 1 = nI (j + 1) := nI_1 j
      have := ih (j + 1) (by omega) hj
      rw [← e1] at this
      exact this
theorem c5_keyOf (hE : ∀ U, G.2.2.2 U → sE G.2.2.1 adK adV zz U) {i : Nat} (hi : i < 9) {h : wH} : Sat G mX5_keyOf [.ref (adK i)] h (Det (some (.int (nI (wkN i)))) h) := by
  refine Sat.of (by decide) [some (.ref (adK i)), none, none] rfl rfl (fun X => ?_)
  refine ww_iconst (v := 0) dX5_keyOf_0 (by decide) ?_
  refine ww_istore_n dX5_keyOf_1 rfl rfl rfl ?_
  refine ww_iconst (v := 0) dX5_keyOf_2 (by decide) ?_
  refine ww_istore_n dX5_keyOf_3 rfl rfl rfl ?_
  exact L5_key hE hi _ 0 (Nat.lt_succ_self _) (Nat.zero_le _)
end STR1
