
def M107t (g83 : Int32 → Int32 → Int32 → (Nat → Int32) → (Nat → Int32) → (Nat → Int32) → (Nat → Int32) → (Nat → Int32) → (Nat → Int32) → (Nat → Int32) → (Nat → Int32) → (Nat → Int32) → (Nat → Int32) → (Option (Int32 × Int32 × (Nat → Int32) × (Nat → Int32) × (Nat → Int32) × (Nat → Int32) × (Nat → Int32) × (Nat → Int32) × (Nat → Int32) × (Nat → Int32) × (Nat → Int32) × (Nat → Int32)))) (mod_code : Int32) (mod_shoes : Int32) (mod_claims : Int32) (mod_taped : Int32) (mod_suits : Int32) (mod_doneMany : Int32) (mod_undoneMany : Int32) (mod_open : Int32) (mod_laid : Int32) (mod_isBoth : Int32) (mod_wished : Int32) (mod_bestMany : Int32) (mod_bestRow : Int32) (mod_ringDigits : Int32) (mod_traces : Int32) (mod_tape : Nat → Int32) (x1 : Int32) (mod_here : Int32) (mod_fault : Int32) (mod_suedBy : Nat → Int32) (mod_suedOn : Nat → Int32) (mod_endKind : Nat → Int32) (mod_isWon : Nat → Int32) (mod_suitDay : Nat → Int32) (mod_suitLand : Nat → Int32) (mod_askedMany : Nat → Int32) (mod_firstMany : Nat → Int32) (mod_asked : Nat → Int32) (mod_pointIs : Nat → Int32) : Option (Int32 × Int32 × (Nat → Int32) × (Nat → Int32) × (Nat → Int32) × (Nat → Int32) × (Nat → Int32) × (Nat → Int32) × (Nat → Int32) × (Nat → Int32) × (Nat → Int32) × (Nat → Int32)) :=
  (zk_b3 (f_X12_takes (64 : Int32) mod_code mod_shoes mod_claims mod_taped mod_here mod_fault mod_suits mod_doneMany mod_undoneMany mod_open mod_laid mod_isBoth mod_wished mod_bestMany mod_bestRow mod_ringDigits mod_traces mod_tape) (fun r_54 u_55 u_56 => (if r_54 = 0 then (some (u_55, u_56, mod_suedBy, mod_suedOn, mod_endKind, mod_isWon, mod_suitDay, mod_suitLand, mod_askedMany, mod_firstMany, mod_asked, mod_pointIs)) else (zk_b3 (f_X12_number 100000 (4 : Int32) (10000 : Int32) mod_code mod_shoes mod_claims mod_taped u_55 u_56 mod_suits mod_doneMany mod_undoneMany mod_open mod_laid mod_isBoth mod_wished mod_bestMany mod_bestRow mod_ringDigits mod_traces mod_tape) (fun r_59 u_60 u_61 => (if (x1 < 0 ∨ 45 ≤ x1.toNatClampNeg) then none else (zk_let (upd mod_suitDay x1.toNatClampNeg r_59) (fun f_64 => (zk_b3 (f_X12_takes (47 : Int32) mod_code mod_shoes mod_claims mod_taped u_60 u_61 mod_suits mod_doneMany mod_undoneMany mod_open mod_laid mod_isBoth mod_wished mod_bestMany mod_bestRow mod_ringDigits mod_traces mod_tape) (fun r_65 u_66 u_67 => (if r_65 = 0 then (some (u_66, u_67, mod_suedBy, mod_suedOn, mod_endKind, mod_isWon, f_64, mod_suitLand, mod_askedMany, mod_firstMany, mod_asked, mod_pointIs)) else (zk_b3 (f_X12_number 100000 (1 : Int32) (8 : Int32) mod_code mod_shoes mod_claims mod_taped u_66 u_67 mod_suits mod_doneMany mod_undoneMany mod_open mod_laid mod_isBoth mod_wished mod_bestMany mod_bestRow mod_ringDigits mod_traces mod_tape) (fun r_70 u_71 u_72 => (if (x1 < 0 ∨ 45 ≤ x1.toNatClampNeg) then none else (zk_let (upd mod_suitLand x1.toNatClampNeg r_70) (fun f_75 => (if 0 ≤ u_72 then (some (u_71, u_72, mod_suedBy, mod_suedOn, mod_endKind, mod_isWon, f_64, f_75, mod_askedMany, mod_firstMany, mod_asked, mod_pointIs)) else (if mod_taped ≤ u_71 then (some (u_71, u_72, mod_suedBy, mod_suedOn, mod_endKind, mod_isWon, f_64, f_75, mod_askedMany, mod_firstMany, mod_asked, mod_pointIs)) else (zk_b1 (f_X12_wrong mod_code mod_shoes mod_claims mod_taped u_71 u_72 mod_suits mod_doneMany mod_undoneMany mod_open mod_laid mod_isBoth mod_wished mod_bestMany mod_bestRow mod_ringDigits mod_traces) (fun u_78 => (some (u_71, u_78, mod_suedBy, mod_suedOn, mod_endKind, mod_isWon, f_64, f_75, mod_askedMany, mod_firstMany, mod_asked, mod_pointIs))))))))))))))))))))))
set_option maxHeartbeats 4000000 in
set_option maxRecDepth 20000 in
theorem s4_end {mod_code : Int32} {court_shoeCount : Int32} {mod_claims : Int32} {ts : Int32} {at_ : Int32} {f : Int32} {court_suitCount : Int32} {mod_doneMany : Int32} {mod_undoneMany : Int32} {mod_open : Int32} {mod_laid : Int32} {mod_isBoth : Int32} {mod_wished : Int32} {mod_bestMany : Int32} {mod_bestRow : Int32} {mod_ringDigits : Int32} {mod_traces : Int32} {tm : Nat → Int32} {mod_askedMany : Nat → Int32} {mod_asked : Nat → Int32} {mod_pointIs : Nat → Int32} {mod_endKind : Nat → Int32} {mod_isWon : Nat → Int32} {mod_firstMany : Nat → Int32} {mod_suedBy : Nat → Int32} {mod_suedOn : Nat → Int32} {mod_suitDay : Nat → Int32} {mod_suitLand : Nat → Int32} {tb : Nat → Int32} {su_who : Int32} {su_against : Int32} {su_kind : Int32} {su_won : Int32} {su_day : Int32} {su_land : Int32} {su_undoneFrom : Int32} {su_askedCount : Int32} {su_askedBits : Int32} {su_first : Int32} {su_foundSo : Int32} {su_foundNot : Int32} {su_fought : Int32} {su_needed : Int32} {sp : Value} {na : Int32} {g : Int32 → Int32 → Int32 → (Nat → Int32) → (Nat → Int32) → (Nat → Int32) → (Nat → Int32) → (Nat → Int32) → (Nat → Int32) → (Nat → Int32) → (Nat → Int32) → (Nat → Int32) → (Nat → Int32) → (Option (Int32 × Int32 × (Nat → Int32) × (Nat → Int32) × (Nat → Int32) × (Nat → Int32) × (Nat → Int32) × (Nat → Int32) × (Nat → Int32) × (Nat → Int32) × (Nat → Int32) × (Nat → Int32)))} {x1 a1 n1 f1 k1 w1 s1 : Int32} {R : Int32 × Int32 × (Nat → Int32) × (Nat → Int32) × (Nat → Int32) × (Nat → Int32) × (Nat → Int32) × (Nat → Int32) × (Nat → Int32) × (Nat → Int32) × (Nat → Int32) × (Nat → Int32)} (hT : TS ts) (hR : TR ts tb tm) (hf : f.toInt < 0) (hp : PB ts at_) (hq : mod_askedMany x1.toNatClampNeg = su_askedCount) (hq2 : 0 ≤ su_askedCount.toInt ∧ su_askedCount.toInt ≤ 32) (h : f_X8_readEnding ts tb sp at_ na f su_who su_against su_kind su_won su_day su_land su_undoneFrom su_askedCount su_askedBits su_first su_foundSo su_foundNot su_fought su_needed = some (a1, n1, f1, k1, w1, s1)) (k : B_X12_readSuit_107 g mod_code court_shoeCount mod_claims ts court_suitCount mod_doneMany mod_undoneMany mod_open mod_laid mod_isBoth mod_wished mod_bestMany mod_bestRow mod_ringDigits mod_traces tm x1 at_ f mod_suedBy mod_suedOn mod_endKind mod_isWon mod_suitDay mod_suitLand mod_askedMany mod_firstMany mod_asked mod_pointIs = some R) : (0 ≤ f1.toInt ∧ R.2.1 = f1 ∧ RFR x1.toInt.toNat (mod_suedBy, mod_suedOn, mod_endKind, mod_isWon, mod_suitDay, mod_suitLand, mod_askedMany, mod_firstMany, mod_asked, mod_pointIs) R.2.2) ∨ (f1 = f ∧ PB ts a1 ∧ (0 ≤ k1.toInt ∧ k1.toInt ≤ 6) ∧ (0 ≤ w1.toInt ∧ w1.toInt ≤ 1) ∧ ∃ fm : Nat → Int32, ((k1 = 6 → fm = upd (upd mod_firstMany x1.toNatClampNeg su_askedCount) x1.toNatClampNeg s1) ∧ (k1 ≠ 6 → fm = upd mod_firstMany x1.toNatClampNeg su_askedCount)) ∧ M107t g mod_code court_shoeCount mod_claims ts court_suitCount mod_doneMany mod_undoneMany mod_open mod_laid mod_isBoth mod_wished mod_bestMany mod_bestRow mod_ringDigits mod_traces tm x1 a1 f mod_suedBy mod_suedOn (upd mod_endKind x1.toNatClampNeg k1) (upd mod_isWon x1.toNatClampNeg w1) mod_suitDay mod_suitLand mod_askedMany fm mod_asked mod_pointIs = some R) := by
  unfold f_X8_readEnding B_X8_readEnding_0 at h
  unfold B_X12_readSuit_107 at k
  replace h := zk_o2 h
  obtain ⟨cu_1, cu_2, ch1, h⟩ := h
  rcases cb_expectN (n := 61) hT hf hp (by decide) ch1 with ⟨ck2, cq4, cq5, ck3⟩ | ⟨ck2, cq6, cq7⟩
  · replace cq4 := cq4.symm
    subst cq4
    replace cq5 := cq5.symm
    subst cq5
    have ck3a := ck3.1
    replace h := zk_o2 h
    obtain ⟨cr_4, cu_5, ch8, h⟩ := h
    rcases cb_acceptN (n := 112) hT hf ck3 (by decide) ch8 with ⟨ck9, cq11, cq12, ck10⟩ | ⟨ck9, cq13, cq14⟩
    · replace cq11 := cq11.symm
      subst cq11
      replace cq12 := cq12.symm
      subst cq12
      have ck10a := ck10.1
      replace h := zk_f (by decide) h
      replace h := zk_o4 h
      obtain ⟨cr_20, cu_21, cu_22, cu_23, ch15, h⟩ := h
      rcases cb_numberD hT hf ck10 ch15 with ⟨ck16, cq18, cq19, cq20, cq21, ck17⟩ | ⟨ck16, cq22, cq23, cq24, cq25⟩
      · replace cq18 := cq18.symm
        subst cq18
        replace cq19 := cq19.symm
        subst cq19
        replace cq20 := cq20.symm
        subst cq20
        replace cq21 := cq21.symm
        subst cq21
        have ck17a := ck17.1
        have ck17b := nmv_b1 (ts := ts) (tb := tb) ((at_ + 1) + 1)
        have ck17c := nm_1 ck16
        by_cases cc26 : (nmv ts tb 1 ((at_ + 1) + 1)) < (1 : Int32)
        · replace h := zk_t cc26 h
          have cc26n := cc26
          (try simp only [i32_lt, i32_le, i32_e, z32_0, z32_1] at cc26n)
          unfold B_X8_readEnding_54 at h
          unfold B_X8_readEnding_55 at h
          replace h := zk_o1 h
          obtain ⟨cu_27, ch27, h⟩ := h
          obtain cq28 := cb_judge0N hf ch27
          replace cq28 := cq28.symm
          subst cq28
          unfold B_X8_readEnding_123 at h
          replace h := zk_o2 h
          obtain ⟨cr_33, cu_34, ch29, h⟩ := h
          obtain ⟨cq30, cq31⟩ := cb_acceptP (ck10).1 ch29
          replace cq30 := cq30.symm
          subst cq30
          replace cq31 := cq31.symm
          subst cq31
          replace h := zk_t (by decide) h
          unfold B_X8_readEnding_138 at h
          replace h := zk_t (by decide) h
          replace h := zk_o2 h
          obtain ⟨cu_38, cu_39, ch32, h⟩ := h
          obtain ⟨cq33, cq34⟩ := cb_expectP (ck10).1 ch32
          replace cq33 := cq33.symm
          subst cq33
          replace cq34 := cq34.symm
          subst cq34
          simp only [Option.some.injEq, Prod.mk.injEq] at h
          obtain ⟨rfl, rfl, rfl, rfl, rfl, rfl⟩ := h
          replace k := zk_o3 k
          obtain ⟨mr_43, mu_44, mu_45, mh1, k⟩ := k
          rcases mb_takesN (n := 61) hT hR hf hp (by decide) mh1 with ⟨mk2, mq4, mq5, mq6, mk3⟩ | ⟨mk2, _, _, _⟩
          · replace mq4 := mq4.symm
            subst mq4
            replace mq5 := mq5.symm
            subst mq5
            replace mq6 := mq6.symm
            subst mq6
            have mk3a := mk3.1
            replace k := zk_f (by decide) k
            replace k := zk_o5 k
            obtain ⟨mu_48, mu_49, mu_50, mu_51, mu_52, mh7, k⟩ := k
            unfold f_X12_readEnding at mh7
            unfold B_X12_readEnding_0 at mh7
            obtain ⟨mr_1, mu_2, mh8, mh7⟩ := zk_o2 mh7
            obtain mk9 := mb_look hT hR mk3 mh8
            have mh7 := zk_f (fun z => absurd ((BR_E (n := 109) mk9 (by decide)).mp z) (by omega)) mh7
            have mh7 := zk_f (fun z => absurd ((BR_E (n := 102) mk9 (by decide)).mp z) (by omega)) mh7
            have mh7 := zk_f (fun z => absurd ((BR_E (n := 97) mk9 (by decide)).mp z) (by omega)) mh7
            have mh7 := zk_f (fun z => absurd ((BR_E (n := 100) mk9 (by decide)).mp z) (by omega)) mh7
            have mh7 := zk_t ((BR_E (n := 112) mk9 (by decide)).mpr (by omega)) mh7
            unfold B_X12_readEnding_40 at mh7
            have mh7 := zk_f (fun z => absurd ((BR_E (n := 109) mk9 (by decide)).mp z) (by omega)) mh7
            have mh7 := zk_f (fun z => absurd ((BR_E (n := 102) mk9 (by decide)).mp z) (by omega)) mh7
            have mh7 := zk_f (fun z => absurd ((BR_E (n := 97) mk9 (by decide)).mp z) (by omega)) mh7
            have mh7 := zk_f (fun z => absurd ((BR_E (n := 100) mk9 (by decide)).mp z) (by omega)) mh7
            unfold B_X12_readEnding_87 at mh7
            rw [hq] at mh7
            obtain ⟨_, mh7⟩ := zk_gd mh7
            obtain ⟨mf_16, me10, mh7⟩ := zk_lt mh7
            obtain ⟨_, mh7⟩ := zk_gd mh7
            obtain ⟨mv_18, me11, mh7⟩ := zk_lt mh7
            replace me11 := me11.symm
            subst me11
            obtain ⟨_, mh7⟩ := zk_gd mh7
            obtain ⟨mf_20, me12, mh7⟩ := zk_lt mh7
            obtain ⟨mv_21, me13, mh7⟩ := zk_lt mh7
            subst me13
            have mh7 := zk_t ((BR_E (n := 112) mk9 (by decide)).mpr (by omega)) mh7
            obtain ⟨mr_23, mu_24, mh14, mh7⟩ := zk_o2 mh7
            obtain mk15 := mb_look hT hR ck10 mh14
            obtain ⟨_, mh7⟩ := zk_gd mh7
            by_cases mc16 : (9 : Int32) ≤ su_askedCount
            · have mh7 := zk_t mc16 mh7
              have mc16n := mc16
              (try simp only [i32_lt, i32_le, i32_e, z32_0, z32_1, z32L_9] at mc16n)
              unfold B_X12_readEnding_146 at mh7
              obtain ⟨mr_29, mu_30, mh17, mh7⟩ := zk_o2 mh7
              rcases mb_first mk15 (by decide) mh17 with ⟨mq20, mk18, mk19⟩ | ⟨mq21, mk18⟩
              · replace mq20 := mq20.symm
                subst mq20
                try rw [z32L_9] at mk19
                have mh7 := zk_f (by decide) mh7
                obtain ⟨mr_33, mu_34, mh22, mh7⟩ := zk_o2 mh7
                obtain mk23 := mb_look hT hR ck10 mh22
                obtain ⟨mv_36, me24, mh7⟩ := zk_lt mh7
                subst me24
                obtain ⟨_, mh7⟩ := zk_gd mh7
                obtain ⟨mf_38, me25, mh7⟩ := zk_lt mh7
                obtain ⟨mv_39, me26, mh7⟩ := zk_lt mh7
                subst me26
                unfold B_X12_readEnding_180 at mh7
                obtain ⟨mr_42, mu_43, mh27, mh7⟩ := zk_o2 mh7
                obtain mk28 := mb_look hT hR ck17 mh27
                by_cases mc29 : mr_42 = (119 : Int32)
                · have mh7 := zk_t mc29 mh7
                  have mc29n := (BR_E (n := 119) mk28 (by decide)).mp mc29
                  unfold B_X12_readEnding_203 at mh7
                  obtain ⟨mr_52, mu_53, mh30, mh7⟩ := zk_o2 mh7
                  obtain mk31 := mb_look hT hR ck17 mh30
                  have mh7 := zk_t ((BR_E (n := 119) mk31 (by decide)).mpr (by omega)) mh7
                  unfold B_X12_readEnding_222 at mh7
                  obtain ⟨_, mh7⟩ := zk_gd mh7
                  obtain ⟨mf_57, me32, mh7⟩ := zk_lt mh7
                  obtain ⟨mv_58, me33, mh7⟩ := zk_lt mh7
                  subst me33
                  simp only [Option.some.injEq, Prod.mk.injEq] at mh7
                  obtain ⟨rfl, rfl, rfl, rfl, rfl⟩ := mh7
                  subst me10
                  subst me12
                  subst me25
                  subst me32
                  exfalso; omega
                · have mh7 := zk_f mc29 mh7
                  have mc29n := (fun z => mc29 ((BR_E (n := 119) mk28 (by decide)).mpr z))
                  obtain ⟨mr_46, mu_47, mh34, mh7⟩ := zk_o2 mh7
                  obtain mk35 := mb_look hT hR ck17 mh34
                  by_cases mc36 : mr_46 = (108 : Int32)
                  · have mh7 := zk_t mc36 mh7
                    have mc36n := (BR_E (n := 108) mk35 (by decide)).mp mc36
                    unfold B_X12_readEnding_203 at mh7
                    obtain ⟨mr_52, mu_53, mh37, mh7⟩ := zk_o2 mh7
                    obtain mk38 := mb_look hT hR ck17 mh37
                    have mh7 := zk_f (fun z => absurd ((BR_E (n := 119) mk38 (by decide)).mp z) (by omega)) mh7
                    unfold B_X12_readEnding_222 at mh7
                    obtain ⟨_, mh7⟩ := zk_gd mh7
                    obtain ⟨mf_57, me39, mh7⟩ := zk_lt mh7
                    obtain ⟨mv_58, me40, mh7⟩ := zk_lt mh7
                    subst me40
                    simp only [Option.some.injEq, Prod.mk.injEq] at mh7
                    obtain ⟨rfl, rfl, rfl, rfl, rfl⟩ := mh7
                    subst me10
                    subst me12
                    subst me25
                    subst me39
                    exfalso; omega
                  · have mh7 := zk_f mc36 mh7
                    have mc36n := (fun z => mc36 ((BR_E (n := 108) mk35 (by decide)).mpr z))
                    obtain ⟨mu_50, mh41, mh7⟩ := zk_o1 mh7
                    obtain mq42 := mb_wrongN hf mh41
                    replace mq42 := mq42.symm
                    subst mq42
                    simp only [Option.some.injEq, Prod.mk.injEq] at mh7
                    obtain ⟨rfl, rfl, rfl, rfl, rfl⟩ := mh7
                    replace k := zk_o3 k
                    obtain ⟨mr_54, mu_55, mu_56, mh43, k⟩ := k
                    obtain ⟨mq44, mq45, mq46⟩ := mb_takesP (ck17).1 mh43
                    replace mq44 := mq44.symm
                    subst mq44
                    replace mq45 := mq45.symm
                    subst mq45
                    replace mq46 := mq46.symm
                    subst mq46
                    replace k := zk_t (by decide) k
                    subst me10
                    subst me12
                    subst me25
                    replace k := Option.some.inj k
                    rw [← k]
                    first | (exfalso; omega) | exact Or.inl ⟨(ck10).1, rfl, ⟨by intro j hj; first | rfl | exact upd_n hj | exact (upd_n hj).trans (upd_n hj), by intro j hj; first | rfl | exact upd_n hj | exact (upd_n hj).trans (upd_n hj), by intro j hj; first | rfl | exact upd_n hj | exact (upd_n hj).trans (upd_n hj), by intro j hj; first | rfl | exact upd_n hj | exact (upd_n hj).trans (upd_n hj), by intro j hj; first | rfl | exact upd_n hj | exact (upd_n hj).trans (upd_n hj), by intro j hj; first | rfl | exact upd_n hj | exact (upd_n hj).trans (upd_n hj), by intro j hj; first | rfl | exact upd_n hj | exact (upd_n hj).trans (upd_n hj), by intro j hj; first | rfl | exact upd_n hj | exact (upd_n hj).trans (upd_n hj), fun _ _ => rfl, fun _ _ => rfl⟩⟩
              · replace mq21 := mq21.symm
                subst mq21
                try rw [z32L_9] at mk18
                have mh7 := zk_t (by decide) mh7
                obtain ⟨mu_40, mh47, mh7⟩ := zk_o1 mh7
                obtain mq48 := mb_wrongN hf mh47
                replace mq48 := mq48.symm
                subst mq48
                simp only [Option.some.injEq, Prod.mk.injEq] at mh7
                obtain ⟨rfl, rfl, rfl, rfl, rfl⟩ := mh7
                replace k := zk_o3 k
                obtain ⟨mr_54, mu_55, mu_56, mh49, k⟩ := k
                obtain ⟨mq50, mq51, mq52⟩ := mb_takesP (ck10).1 mh49
                replace mq50 := mq50.symm
                subst mq50
                replace mq51 := mq51.symm
                subst mq51
                replace mq52 := mq52.symm
                subst mq52
                replace k := zk_t (by decide) k
                subst me10
                subst me12
                replace k := Option.some.inj k
                rw [← k]
                first | (exfalso; omega) | exact Or.inl ⟨(ck10).1, rfl, ⟨by intro j hj; first | rfl | exact upd_n hj | exact (upd_n hj).trans (upd_n hj), by intro j hj; first | rfl | exact upd_n hj | exact (upd_n hj).trans (upd_n hj), by intro j hj; first | rfl | exact upd_n hj | exact (upd_n hj).trans (upd_n hj), by intro j hj; first | rfl | exact upd_n hj | exact (upd_n hj).trans (upd_n hj), by intro j hj; first | rfl | exact upd_n hj | exact (upd_n hj).trans (upd_n hj), by intro j hj; first | rfl | exact upd_n hj | exact (upd_n hj).trans (upd_n hj), by intro j hj; first | rfl | exact upd_n hj | exact (upd_n hj).trans (upd_n hj), by intro j hj; first | rfl | exact upd_n hj | exact (upd_n hj).trans (upd_n hj), fun _ _ => rfl, fun _ _ => rfl⟩⟩
            · have mh7 := zk_f mc16 mh7
              have mc16n := mc16
              (try simp only [i32_lt, i32_le, i32_e, z32_0, z32_1, z32L_9] at mc16n)
              obtain ⟨_, mh7⟩ := zk_gd mh7
              unfold B_X12_readEnding_146 at mh7
              obtain ⟨mr_29, mu_30, mh53, mh7⟩ := zk_o2 mh7
              rcases mb_first mk15 (by omega) mh53 with ⟨mq56, mk54, mk55⟩ | ⟨mq57, mk54⟩
              · replace mq56 := mq56.symm
                subst mq56
                try rw [z32L_9] at mk55
                have mh7 := zk_f (by decide) mh7
                obtain ⟨mr_33, mu_34, mh58, mh7⟩ := zk_o2 mh7
                obtain mk59 := mb_look hT hR ck10 mh58
                obtain ⟨mv_36, me60, mh7⟩ := zk_lt mh7
                subst me60
                obtain ⟨_, mh7⟩ := zk_gd mh7
                obtain ⟨mf_38, me61, mh7⟩ := zk_lt mh7
                obtain ⟨mv_39, me62, mh7⟩ := zk_lt mh7
                subst me62
                unfold B_X12_readEnding_180 at mh7
                obtain ⟨mr_42, mu_43, mh63, mh7⟩ := zk_o2 mh7
                obtain mk64 := mb_look hT hR ck17 mh63
                by_cases mc65 : mr_42 = (119 : Int32)
                · have mh7 := zk_t mc65 mh7
                  have mc65n := (BR_E (n := 119) mk64 (by decide)).mp mc65
                  unfold B_X12_readEnding_203 at mh7
                  obtain ⟨mr_52, mu_53, mh66, mh7⟩ := zk_o2 mh7
                  obtain mk67 := mb_look hT hR ck17 mh66
                  have mh7 := zk_t ((BR_E (n := 119) mk67 (by decide)).mpr (by omega)) mh7
                  unfold B_X12_readEnding_222 at mh7
                  obtain ⟨_, mh7⟩ := zk_gd mh7
                  obtain ⟨mf_57, me68, mh7⟩ := zk_lt mh7
                  obtain ⟨mv_58, me69, mh7⟩ := zk_lt mh7
                  subst me69
                  simp only [Option.some.injEq, Prod.mk.injEq] at mh7
                  obtain ⟨rfl, rfl, rfl, rfl, rfl⟩ := mh7
                  subst me10
                  subst me12
                  subst me61
                  subst me68
                  exfalso; omega
                · have mh7 := zk_f mc65 mh7
                  have mc65n := (fun z => mc65 ((BR_E (n := 119) mk64 (by decide)).mpr z))
                  obtain ⟨mr_46, mu_47, mh70, mh7⟩ := zk_o2 mh7
                  obtain mk71 := mb_look hT hR ck17 mh70
                  by_cases mc72 : mr_46 = (108 : Int32)
                  · have mh7 := zk_t mc72 mh7
                    have mc72n := (BR_E (n := 108) mk71 (by decide)).mp mc72
                    unfold B_X12_readEnding_203 at mh7
                    obtain ⟨mr_52, mu_53, mh73, mh7⟩ := zk_o2 mh7
                    obtain mk74 := mb_look hT hR ck17 mh73
                    have mh7 := zk_f (fun z => absurd ((BR_E (n := 119) mk74 (by decide)).mp z) (by omega)) mh7
                    unfold B_X12_readEnding_222 at mh7
                    obtain ⟨_, mh7⟩ := zk_gd mh7
                    obtain ⟨mf_57, me75, mh7⟩ := zk_lt mh7
                    obtain ⟨mv_58, me76, mh7⟩ := zk_lt mh7
                    subst me76
                    simp only [Option.some.injEq, Prod.mk.injEq] at mh7
                    obtain ⟨rfl, rfl, rfl, rfl, rfl⟩ := mh7
                    subst me10
                    subst me12
                    subst me61
                    subst me75
                    exfalso; omega
                  · have mh7 := zk_f mc72 mh7
                    have mc72n := (fun z => mc72 ((BR_E (n := 108) mk71 (by decide)).mpr z))
                    obtain ⟨mu_50, mh77, mh7⟩ := zk_o1 mh7
                    obtain mq78 := mb_wrongN hf mh77
                    replace mq78 := mq78.symm
                    subst mq78
                    simp only [Option.some.injEq, Prod.mk.injEq] at mh7
                    obtain ⟨rfl, rfl, rfl, rfl, rfl⟩ := mh7
                    replace k := zk_o3 k
                    obtain ⟨mr_54, mu_55, mu_56, mh79, k⟩ := k
                    obtain ⟨mq80, mq81, mq82⟩ := mb_takesP (ck17).1 mh79
                    replace mq80 := mq80.symm
                    subst mq80
                    replace mq81 := mq81.symm
                    subst mq81
                    replace mq82 := mq82.symm
                    subst mq82
                    replace k := zk_t (by decide) k
                    subst me10
                    subst me12
                    subst me61
                    replace k := Option.some.inj k
                    rw [← k]
                    first | (exfalso; omega) | exact Or.inl ⟨(ck10).1, rfl, ⟨by intro j hj; first | rfl | exact upd_n hj | exact (upd_n hj).trans (upd_n hj), by intro j hj; first | rfl | exact upd_n hj | exact (upd_n hj).trans (upd_n hj), by intro j hj; first | rfl | exact upd_n hj | exact (upd_n hj).trans (upd_n hj), by intro j hj; first | rfl | exact upd_n hj | exact (upd_n hj).trans (upd_n hj), by intro j hj; first | rfl | exact upd_n hj | exact (upd_n hj).trans (upd_n hj), by intro j hj; first | rfl | exact upd_n hj | exact (upd_n hj).trans (upd_n hj), by intro j hj; first | rfl | exact upd_n hj | exact (upd_n hj).trans (upd_n hj), by intro j hj; first | rfl | exact upd_n hj | exact (upd_n hj).trans (upd_n hj), fun _ _ => rfl, fun _ _ => rfl⟩⟩
              · replace mq57 := mq57.symm
                subst mq57
                try rw [z32L_9] at mk54
                have mh7 := zk_t (by decide) mh7
                obtain ⟨mu_40, mh83, mh7⟩ := zk_o1 mh7
                obtain mq84 := mb_wrongN hf mh83
                replace mq84 := mq84.symm
                subst mq84
                simp only [Option.some.injEq, Prod.mk.injEq] at mh7
                obtain ⟨rfl, rfl, rfl, rfl, rfl⟩ := mh7
                replace k := zk_o3 k
                obtain ⟨mr_54, mu_55, mu_56, mh85, k⟩ := k
                obtain ⟨mq86, mq87, mq88⟩ := mb_takesP (ck10).1 mh85
                replace mq86 := mq86.symm
                subst mq86
                replace mq87 := mq87.symm
                subst mq87
                replace mq88 := mq88.symm
                subst mq88
                replace k := zk_t (by decide) k
                subst me10
                subst me12
                replace k := Option.some.inj k
                rw [← k]
                first | (exfalso; omega) | exact Or.inl ⟨(ck10).1, rfl, ⟨by intro j hj; first | rfl | exact upd_n hj | exact (upd_n hj).trans (upd_n hj), by intro j hj; first | rfl | exact upd_n hj | exact (upd_n hj).trans (upd_n hj), by intro j hj; first | rfl | exact upd_n hj | exact (upd_n hj).trans (upd_n hj), by intro j hj; first | rfl | exact upd_n hj | exact (upd_n hj).trans (upd_n hj), by intro j hj; first | rfl | exact upd_n hj | exact (upd_n hj).trans (upd_n hj), by intro j hj; first | rfl | exact upd_n hj | exact (upd_n hj).trans (upd_n hj), by intro j hj; first | rfl | exact upd_n hj | exact (upd_n hj).trans (upd_n hj), by intro j hj; first | rfl | exact upd_n hj | exact (upd_n hj).trans (upd_n hj), fun _ _ => rfl, fun _ _ => rfl⟩⟩
          · exact (mk2 ck2).elim
        · replace h := zk_f cc26 h
          have cc26n := cc26
          (try simp only [i32_lt, i32_le, i32_e, z32_0, z32_1] at cc26n)
          by_cases cc35 : su_askedCount < (nmv ts tb 1 ((at_ + 1) + 1))
          · replace h := zk_t cc35 h
            have cc35n := cc35
            (try simp only [i32_lt, i32_le, i32_e, z32_0, z32_1] at cc35n)
            unfold B_X8_readEnding_54 at h
            unfold B_X8_readEnding_55 at h
            replace h := zk_o1 h
            obtain ⟨cu_27, ch36, h⟩ := h
            obtain cq37 := cb_judge0N hf ch36
            replace cq37 := cq37.symm
            subst cq37
            unfold B_X8_readEnding_123 at h
            replace h := zk_o2 h
            obtain ⟨cr_33, cu_34, ch38, h⟩ := h
            obtain ⟨cq39, cq40⟩ := cb_acceptP (ck10).1 ch38
            replace cq39 := cq39.symm
            subst cq39
            replace cq40 := cq40.symm
            subst cq40
            replace h := zk_t (by decide) h
            unfold B_X8_readEnding_138 at h
            replace h := zk_t (by decide) h
            replace h := zk_o2 h
            obtain ⟨cu_38, cu_39, ch41, h⟩ := h
            obtain ⟨cq42, cq43⟩ := cb_expectP (ck10).1 ch41
            replace cq42 := cq42.symm
            subst cq42
            replace cq43 := cq43.symm
            subst cq43
            simp only [Option.some.injEq, Prod.mk.injEq] at h
            obtain ⟨rfl, rfl, rfl, rfl, rfl, rfl⟩ := h
            replace k := zk_o3 k
            obtain ⟨mr_43, mu_44, mu_45, mh89, k⟩ := k
            rcases mb_takesN (n := 61) hT hR hf hp (by decide) mh89 with ⟨mk90, mq92, mq93, mq94, mk91⟩ | ⟨mk90, _, _, _⟩
            · replace mq92 := mq92.symm
              subst mq92
              replace mq93 := mq93.symm
              subst mq93
              replace mq94 := mq94.symm
              subst mq94
              have mk91a := mk91.1
              replace k := zk_f (by decide) k
              replace k := zk_o5 k
              obtain ⟨mu_48, mu_49, mu_50, mu_51, mu_52, mh95, k⟩ := k
              unfold f_X12_readEnding at mh95
              unfold B_X12_readEnding_0 at mh95
              obtain ⟨mr_1, mu_2, mh96, mh95⟩ := zk_o2 mh95
              obtain mk97 := mb_look hT hR mk91 mh96
              have mh95 := zk_f (fun z => absurd ((BR_E (n := 109) mk97 (by decide)).mp z) (by omega)) mh95
              have mh95 := zk_f (fun z => absurd ((BR_E (n := 102) mk97 (by decide)).mp z) (by omega)) mh95
              have mh95 := zk_f (fun z => absurd ((BR_E (n := 97) mk97 (by decide)).mp z) (by omega)) mh95
              have mh95 := zk_f (fun z => absurd ((BR_E (n := 100) mk97 (by decide)).mp z) (by omega)) mh95
              have mh95 := zk_t ((BR_E (n := 112) mk97 (by decide)).mpr (by omega)) mh95
              unfold B_X12_readEnding_40 at mh95
              have mh95 := zk_f (fun z => absurd ((BR_E (n := 109) mk97 (by decide)).mp z) (by omega)) mh95
              have mh95 := zk_f (fun z => absurd ((BR_E (n := 102) mk97 (by decide)).mp z) (by omega)) mh95
              have mh95 := zk_f (fun z => absurd ((BR_E (n := 97) mk97 (by decide)).mp z) (by omega)) mh95
              have mh95 := zk_f (fun z => absurd ((BR_E (n := 100) mk97 (by decide)).mp z) (by omega)) mh95
              unfold B_X12_readEnding_87 at mh95
              rw [hq] at mh95
              obtain ⟨_, mh95⟩ := zk_gd mh95
              obtain ⟨mf_16, me98, mh95⟩ := zk_lt mh95
              obtain ⟨_, mh95⟩ := zk_gd mh95
              obtain ⟨mv_18, me99, mh95⟩ := zk_lt mh95
              replace me99 := me99.symm
              subst me99
              obtain ⟨_, mh95⟩ := zk_gd mh95
              obtain ⟨mf_20, me100, mh95⟩ := zk_lt mh95
              obtain ⟨mv_21, me101, mh95⟩ := zk_lt mh95
              subst me101
              have mh95 := zk_t ((BR_E (n := 112) mk97 (by decide)).mpr (by omega)) mh95
              obtain ⟨mr_23, mu_24, mh102, mh95⟩ := zk_o2 mh95
              obtain mk103 := mb_look hT hR ck10 mh102
              obtain ⟨_, mh95⟩ := zk_gd mh95
              by_cases mc104 : (9 : Int32) ≤ su_askedCount
              · have mh95 := zk_t mc104 mh95
                have mc104n := mc104
                (try simp only [i32_lt, i32_le, i32_e, z32_0, z32_1, z32L_9] at mc104n)
                unfold B_X12_readEnding_146 at mh95
                obtain ⟨mr_29, mu_30, mh105, mh95⟩ := zk_o2 mh95
                rcases mb_first mk103 (by decide) mh105 with ⟨mq108, mk106, mk107⟩ | ⟨mq109, mk106⟩
                · replace mq108 := mq108.symm
                  subst mq108
                  try rw [z32L_9] at mk107
                  have mh95 := zk_f (by decide) mh95
                  obtain ⟨mr_33, mu_34, mh110, mh95⟩ := zk_o2 mh95
                  obtain mk111 := mb_look hT hR ck10 mh110
                  obtain ⟨mv_36, me112, mh95⟩ := zk_lt mh95
                  subst me112
                  obtain ⟨_, mh95⟩ := zk_gd mh95
                  obtain ⟨mf_38, me113, mh95⟩ := zk_lt mh95
                  obtain ⟨mv_39, me114, mh95⟩ := zk_lt mh95
                  subst me114
                  unfold B_X12_readEnding_180 at mh95
                  obtain ⟨mr_42, mu_43, mh115, mh95⟩ := zk_o2 mh95
                  obtain mk116 := mb_look hT hR ck17 mh115
                  by_cases mc117 : mr_42 = (119 : Int32)
                  · have mh95 := zk_t mc117 mh95
                    have mc117n := (BR_E (n := 119) mk116 (by decide)).mp mc117
                    unfold B_X12_readEnding_203 at mh95
                    obtain ⟨mr_52, mu_53, mh118, mh95⟩ := zk_o2 mh95
                    obtain mk119 := mb_look hT hR ck17 mh118
                    have mh95 := zk_t ((BR_E (n := 119) mk119 (by decide)).mpr (by omega)) mh95
                    unfold B_X12_readEnding_222 at mh95
                    obtain ⟨_, mh95⟩ := zk_gd mh95
                    obtain ⟨mf_57, me120, mh95⟩ := zk_lt mh95
                    obtain ⟨mv_58, me121, mh95⟩ := zk_lt mh95
                    subst me121
                    simp only [Option.some.injEq, Prod.mk.injEq] at mh95
                    obtain ⟨rfl, rfl, rfl, rfl, rfl⟩ := mh95
                    subst me98
                    subst me100
                    subst me113
                    subst me120
                    exfalso; omega
                  · have mh95 := zk_f mc117 mh95
                    have mc117n := (fun z => mc117 ((BR_E (n := 119) mk116 (by decide)).mpr z))
                    obtain ⟨mr_46, mu_47, mh122, mh95⟩ := zk_o2 mh95
                    obtain mk123 := mb_look hT hR ck17 mh122
                    by_cases mc124 : mr_46 = (108 : Int32)
                    · have mh95 := zk_t mc124 mh95
                      have mc124n := (BR_E (n := 108) mk123 (by decide)).mp mc124
                      unfold B_X12_readEnding_203 at mh95
                      obtain ⟨mr_52, mu_53, mh125, mh95⟩ := zk_o2 mh95
                      obtain mk126 := mb_look hT hR ck17 mh125
                      have mh95 := zk_f (fun z => absurd ((BR_E (n := 119) mk126 (by decide)).mp z) (by omega)) mh95
                      unfold B_X12_readEnding_222 at mh95
                      obtain ⟨_, mh95⟩ := zk_gd mh95
                      obtain ⟨mf_57, me127, mh95⟩ := zk_lt mh95
                      obtain ⟨mv_58, me128, mh95⟩ := zk_lt mh95
                      subst me128
                      simp only [Option.some.injEq, Prod.mk.injEq] at mh95
                      obtain ⟨rfl, rfl, rfl, rfl, rfl⟩ := mh95
                      subst me98
                      subst me100
                      subst me113
                      subst me127
                      exfalso; omega
                    · have mh95 := zk_f mc124 mh95
                      have mc124n := (fun z => mc124 ((BR_E (n := 108) mk123 (by decide)).mpr z))
                      obtain ⟨mu_50, mh129, mh95⟩ := zk_o1 mh95
                      obtain mq130 := mb_wrongN hf mh129
                      replace mq130 := mq130.symm
                      subst mq130
                      simp only [Option.some.injEq, Prod.mk.injEq] at mh95
                      obtain ⟨rfl, rfl, rfl, rfl, rfl⟩ := mh95
                      replace k := zk_o3 k
                      obtain ⟨mr_54, mu_55, mu_56, mh131, k⟩ := k
                      obtain ⟨mq132, mq133, mq134⟩ := mb_takesP (ck17).1 mh131
                      replace mq132 := mq132.symm
                      subst mq132
                      replace mq133 := mq133.symm
                      subst mq133
                      replace mq134 := mq134.symm
                      subst mq134
                      replace k := zk_t (by decide) k
                      subst me98
                      subst me100
                      subst me113
                      replace k := Option.some.inj k
                      rw [← k]
                      first | (exfalso; omega) | exact Or.inl ⟨(ck10).1, rfl, ⟨by intro j hj; first | rfl | exact upd_n hj | exact (upd_n hj).trans (upd_n hj), by intro j hj; first | rfl | exact upd_n hj | exact (upd_n hj).trans (upd_n hj), by intro j hj; first | rfl | exact upd_n hj | exact (upd_n hj).trans (upd_n hj), by intro j hj; first | rfl | exact upd_n hj | exact (upd_n hj).trans (upd_n hj), by intro j hj; first | rfl | exact upd_n hj | exact (upd_n hj).trans (upd_n hj), by intro j hj; first | rfl | exact upd_n hj | exact (upd_n hj).trans (upd_n hj), by intro j hj; first | rfl | exact upd_n hj | exact (upd_n hj).trans (upd_n hj), by intro j hj; first | rfl | exact upd_n hj | exact (upd_n hj).trans (upd_n hj), fun _ _ => rfl, fun _ _ => rfl⟩⟩
                · replace mq109 := mq109.symm
                  subst mq109
                  try rw [z32L_9] at mk106
                  have mh95 := zk_t (by decide) mh95
                  obtain ⟨mu_40, mh135, mh95⟩ := zk_o1 mh95
                  obtain mq136 := mb_wrongN hf mh135
                  replace mq136 := mq136.symm
                  subst mq136
                  simp only [Option.some.injEq, Prod.mk.injEq] at mh95
                  obtain ⟨rfl, rfl, rfl, rfl, rfl⟩ := mh95
                  replace k := zk_o3 k
                  obtain ⟨mr_54, mu_55, mu_56, mh137, k⟩ := k
                  obtain ⟨mq138, mq139, mq140⟩ := mb_takesP (ck10).1 mh137
                  replace mq138 := mq138.symm
                  subst mq138
                  replace mq139 := mq139.symm
                  subst mq139
                  replace mq140 := mq140.symm
                  subst mq140
                  replace k := zk_t (by decide) k
                  subst me98
                  subst me100
                  replace k := Option.some.inj k
                  rw [← k]
                  first | (exfalso; omega) | exact Or.inl ⟨(ck10).1, rfl, ⟨by intro j hj; first | rfl | exact upd_n hj | exact (upd_n hj).trans (upd_n hj), by intro j hj; first | rfl | exact upd_n hj | exact (upd_n hj).trans (upd_n hj), by intro j hj; first | rfl | exact upd_n hj | exact (upd_n hj).trans (upd_n hj), by intro j hj; first | rfl | exact upd_n hj | exact (upd_n hj).trans (upd_n hj), by intro j hj; first | rfl | exact upd_n hj | exact (upd_n hj).trans (upd_n hj), by intro j hj; first | rfl | exact upd_n hj | exact (upd_n hj).trans (upd_n hj), by intro j hj; first | rfl | exact upd_n hj | exact (upd_n hj).trans (upd_n hj), by intro j hj; first | rfl | exact upd_n hj | exact (upd_n hj).trans (upd_n hj), fun _ _ => rfl, fun _ _ => rfl⟩⟩
              · have mh95 := zk_f mc104 mh95
                have mc104n := mc104
                (try simp only [i32_lt, i32_le, i32_e, z32_0, z32_1, z32L_9] at mc104n)
                obtain ⟨_, mh95⟩ := zk_gd mh95
                unfold B_X12_readEnding_146 at mh95
                obtain ⟨mr_29, mu_30, mh141, mh95⟩ := zk_o2 mh95
                rcases mb_first mk103 (by omega) mh141 with ⟨mq144, mk142, mk143⟩ | ⟨mq145, mk142⟩
                · replace mq144 := mq144.symm
                  subst mq144
                  try rw [z32L_9] at mk143
                  have mh95 := zk_f (by decide) mh95
                  obtain ⟨mr_33, mu_34, mh146, mh95⟩ := zk_o2 mh95
                  obtain mk147 := mb_look hT hR ck10 mh146
                  obtain ⟨mv_36, me148, mh95⟩ := zk_lt mh95
                  subst me148
                  obtain ⟨_, mh95⟩ := zk_gd mh95
                  obtain ⟨mf_38, me149, mh95⟩ := zk_lt mh95
                  obtain ⟨mv_39, me150, mh95⟩ := zk_lt mh95
                  subst me150
                  unfold B_X12_readEnding_180 at mh95
                  obtain ⟨mr_42, mu_43, mh151, mh95⟩ := zk_o2 mh95
                  obtain mk152 := mb_look hT hR ck17 mh151
                  by_cases mc153 : mr_42 = (119 : Int32)
                  · have mh95 := zk_t mc153 mh95
                    have mc153n := (BR_E (n := 119) mk152 (by decide)).mp mc153
                    unfold B_X12_readEnding_203 at mh95
                    obtain ⟨mr_52, mu_53, mh154, mh95⟩ := zk_o2 mh95
                    obtain mk155 := mb_look hT hR ck17 mh154
                    have mh95 := zk_t ((BR_E (n := 119) mk155 (by decide)).mpr (by omega)) mh95
                    unfold B_X12_readEnding_222 at mh95
                    obtain ⟨_, mh95⟩ := zk_gd mh95
                    obtain ⟨mf_57, me156, mh95⟩ := zk_lt mh95
                    obtain ⟨mv_58, me157, mh95⟩ := zk_lt mh95
                    subst me157
                    simp only [Option.some.injEq, Prod.mk.injEq] at mh95
                    obtain ⟨rfl, rfl, rfl, rfl, rfl⟩ := mh95
                    subst me98
                    subst me100
                    subst me149
                    subst me156
                    exfalso; omega
                  · have mh95 := zk_f mc153 mh95
                    have mc153n := (fun z => mc153 ((BR_E (n := 119) mk152 (by decide)).mpr z))
                    obtain ⟨mr_46, mu_47, mh158, mh95⟩ := zk_o2 mh95
                    obtain mk159 := mb_look hT hR ck17 mh158
                    by_cases mc160 : mr_46 = (108 : Int32)
                    · have mh95 := zk_t mc160 mh95
                      have mc160n := (BR_E (n := 108) mk159 (by decide)).mp mc160
                      unfold B_X12_readEnding_203 at mh95
                      obtain ⟨mr_52, mu_53, mh161, mh95⟩ := zk_o2 mh95
                      obtain mk162 := mb_look hT hR ck17 mh161
                      have mh95 := zk_f (fun z => absurd ((BR_E (n := 119) mk162 (by decide)).mp z) (by omega)) mh95
                      unfold B_X12_readEnding_222 at mh95
                      obtain ⟨_, mh95⟩ := zk_gd mh95
                      obtain ⟨mf_57, me163, mh95⟩ := zk_lt mh95
                      obtain ⟨mv_58, me164, mh95⟩ := zk_lt mh95
                      subst me164
                      simp only [Option.some.injEq, Prod.mk.injEq] at mh95
                      obtain ⟨rfl, rfl, rfl, rfl, rfl⟩ := mh95
                      subst me98
                      subst me100
                      subst me149
                      subst me163
                      exfalso; omega
                    · have mh95 := zk_f mc160 mh95
                      have mc160n := (fun z => mc160 ((BR_E (n := 108) mk159 (by decide)).mpr z))
                      obtain ⟨mu_50, mh165, mh95⟩ := zk_o1 mh95
                      obtain mq166 := mb_wrongN hf mh165
                      replace mq166 := mq166.symm
                      subst mq166
                      simp only [Option.some.injEq, Prod.mk.injEq] at mh95
                      obtain ⟨rfl, rfl, rfl, rfl, rfl⟩ := mh95
                      replace k := zk_o3 k
                      obtain ⟨mr_54, mu_55, mu_56, mh167, k⟩ := k
                      obtain ⟨mq168, mq169, mq170⟩ := mb_takesP (ck17).1 mh167
                      replace mq168 := mq168.symm
                      subst mq168
                      replace mq169 := mq169.symm
                      subst mq169
                      replace mq170 := mq170.symm
                      subst mq170
                      replace k := zk_t (by decide) k
                      subst me98
                      subst me100
                      subst me149
                      replace k := Option.some.inj k
                      rw [← k]
                      first | (exfalso; omega) | exact Or.inl ⟨(ck10).1, rfl, ⟨by intro j hj; first | rfl | exact upd_n hj | exact (upd_n hj).trans (upd_n hj), by intro j hj; first | rfl | exact upd_n hj | exact (upd_n hj).trans (upd_n hj), by intro j hj; first | rfl | exact upd_n hj | exact (upd_n hj).trans (upd_n hj), by intro j hj; first | rfl | exact upd_n hj | exact (upd_n hj).trans (upd_n hj), by intro j hj; first | rfl | exact upd_n hj | exact (upd_n hj).trans (upd_n hj), by intro j hj; first | rfl | exact upd_n hj | exact (upd_n hj).trans (upd_n hj), by intro j hj; first | rfl | exact upd_n hj | exact (upd_n hj).trans (upd_n hj), by intro j hj; first | rfl | exact upd_n hj | exact (upd_n hj).trans (upd_n hj), fun _ _ => rfl, fun _ _ => rfl⟩⟩
                · replace mq145 := mq145.symm
                  subst mq145
                  try rw [z32L_9] at mk142
                  have mh95 := zk_t (by decide) mh95
                  obtain ⟨mu_40, mh171, mh95⟩ := zk_o1 mh95
                  obtain mq172 := mb_wrongN hf mh171
                  replace mq172 := mq172.symm
                  subst mq172
                  simp only [Option.some.injEq, Prod.mk.injEq] at mh95
                  obtain ⟨rfl, rfl, rfl, rfl, rfl⟩ := mh95
                  replace k := zk_o3 k
                  obtain ⟨mr_54, mu_55, mu_56, mh173, k⟩ := k
                  obtain ⟨mq174, mq175, mq176⟩ := mb_takesP (ck10).1 mh173
                  replace mq174 := mq174.symm
                  subst mq174
                  replace mq175 := mq175.symm
                  subst mq175
                  replace mq176 := mq176.symm
                  subst mq176
                  replace k := zk_t (by decide) k
                  subst me98
                  subst me100
                  replace k := Option.some.inj k
                  rw [← k]
                  first | (exfalso; omega) | exact Or.inl ⟨(ck10).1, rfl, ⟨by intro j hj; first | rfl | exact upd_n hj | exact (upd_n hj).trans (upd_n hj), by intro j hj; first | rfl | exact upd_n hj | exact (upd_n hj).trans (upd_n hj), by intro j hj; first | rfl | exact upd_n hj | exact (upd_n hj).trans (upd_n hj), by intro j hj; first | rfl | exact upd_n hj | exact (upd_n hj).trans (upd_n hj), by intro j hj; first | rfl | exact upd_n hj | exact (upd_n hj).trans (upd_n hj), by intro j hj; first | rfl | exact upd_n hj | exact (upd_n hj).trans (upd_n hj), by intro j hj; first | rfl | exact upd_n hj | exact (upd_n hj).trans (upd_n hj), by intro j hj; first | rfl | exact upd_n hj | exact (upd_n hj).trans (upd_n hj), fun _ _ => rfl, fun _ _ => rfl⟩⟩
            · exact (mk90 ck2).elim
          · replace h := zk_f cc35 h
            have cc35n := cc35
            (try simp only [i32_lt, i32_le, i32_e, z32_0, z32_1] at cc35n)
            unfold B_X8_readEnding_55 at h
            replace h := zk_o1 h
            obtain ⟨cu_27, ch44, h⟩ := h
            obtain cq45 := cb_judge1 ch44
            replace cq45 := cq45.symm
            subst cq45
            unfold B_X8_readEnding_123 at h
            replace h := zk_o2 h
            obtain ⟨cr_33, cu_34, ch46, h⟩ := h
            rcases cb_acceptN (n := 119) hT hf ck17 (by decide) ch46 with ⟨ck47, cq49, cq50, ck48⟩ | ⟨ck47, cq51, cq52⟩
            · replace cq49 := cq49.symm
              subst cq49
              replace cq50 := cq50.symm
              subst cq50
              have ck48a := ck48.1
              replace h := zk_f (by decide) h
              unfold B_X8_readEnding_138 at h
              replace h := zk_f (by decide) h
              simp only [Option.some.injEq, Prod.mk.injEq] at h
              obtain ⟨rfl, rfl, rfl, rfl, rfl, rfl⟩ := h
              replace k := zk_o3 k
              obtain ⟨mr_43, mu_44, mu_45, mh177, k⟩ := k
              rcases mb_takesN (n := 61) hT hR hf hp (by decide) mh177 with ⟨mk178, mq180, mq181, mq182, mk179⟩ | ⟨mk178, _, _, _⟩
              · replace mq180 := mq180.symm
                subst mq180
                replace mq181 := mq181.symm
                subst mq181
                replace mq182 := mq182.symm
                subst mq182
                have mk179a := mk179.1
                replace k := zk_f (by decide) k
                replace k := zk_o5 k
                obtain ⟨mu_48, mu_49, mu_50, mu_51, mu_52, mh183, k⟩ := k
                unfold f_X12_readEnding at mh183
                unfold B_X12_readEnding_0 at mh183
                obtain ⟨mr_1, mu_2, mh184, mh183⟩ := zk_o2 mh183
                obtain mk185 := mb_look hT hR mk179 mh184
                have mh183 := zk_f (fun z => absurd ((BR_E (n := 109) mk185 (by decide)).mp z) (by omega)) mh183
                have mh183 := zk_f (fun z => absurd ((BR_E (n := 102) mk185 (by decide)).mp z) (by omega)) mh183
                have mh183 := zk_f (fun z => absurd ((BR_E (n := 97) mk185 (by decide)).mp z) (by omega)) mh183
                have mh183 := zk_f (fun z => absurd ((BR_E (n := 100) mk185 (by decide)).mp z) (by omega)) mh183
                have mh183 := zk_t ((BR_E (n := 112) mk185 (by decide)).mpr (by omega)) mh183
                unfold B_X12_readEnding_40 at mh183
                have mh183 := zk_f (fun z => absurd ((BR_E (n := 109) mk185 (by decide)).mp z) (by omega)) mh183
                have mh183 := zk_f (fun z => absurd ((BR_E (n := 102) mk185 (by decide)).mp z) (by omega)) mh183
                have mh183 := zk_f (fun z => absurd ((BR_E (n := 97) mk185 (by decide)).mp z) (by omega)) mh183
                have mh183 := zk_f (fun z => absurd ((BR_E (n := 100) mk185 (by decide)).mp z) (by omega)) mh183
                unfold B_X12_readEnding_87 at mh183
                rw [hq] at mh183
                obtain ⟨_, mh183⟩ := zk_gd mh183
                obtain ⟨mf_16, me186, mh183⟩ := zk_lt mh183
                obtain ⟨_, mh183⟩ := zk_gd mh183
                obtain ⟨mv_18, me187, mh183⟩ := zk_lt mh183
                replace me187 := me187.symm
                subst me187
                obtain ⟨_, mh183⟩ := zk_gd mh183
                obtain ⟨mf_20, me188, mh183⟩ := zk_lt mh183
                obtain ⟨mv_21, me189, mh183⟩ := zk_lt mh183
                subst me189
                have mh183 := zk_t ((BR_E (n := 112) mk185 (by decide)).mpr (by omega)) mh183
                obtain ⟨mr_23, mu_24, mh190, mh183⟩ := zk_o2 mh183
                obtain mk191 := mb_look hT hR ck10 mh190
                obtain ⟨_, mh183⟩ := zk_gd mh183
                by_cases mc192 : (9 : Int32) ≤ su_askedCount
                · have mh183 := zk_t mc192 mh183
                  have mc192n := mc192
                  (try simp only [i32_lt, i32_le, i32_e, z32_0, z32_1, z32L_9] at mc192n)
                  unfold B_X12_readEnding_146 at mh183
                  obtain ⟨mr_29, mu_30, mh193, mh183⟩ := zk_o2 mh183
                  rcases mb_first mk191 (by decide) mh193 with ⟨mq196, mk194, mk195⟩ | ⟨mq197, mk194⟩
                  · replace mq196 := mq196.symm
                    subst mq196
                    try rw [z32L_9] at mk195
                    have mh183 := zk_f (by decide) mh183
                    obtain ⟨mr_33, mu_34, mh198, mh183⟩ := zk_o2 mh183
                    obtain mk199 := mb_look hT hR ck10 mh198
                    obtain ⟨mv_36, me200, mh183⟩ := zk_lt mh183
                    subst me200
                    obtain ⟨_, mh183⟩ := zk_gd mh183
                    obtain ⟨mf_38, me201, mh183⟩ := zk_lt mh183
                    obtain ⟨mv_39, me202, mh183⟩ := zk_lt mh183
                    subst me202
                    unfold B_X12_readEnding_180 at mh183
                    obtain ⟨mr_42, mu_43, mh203, mh183⟩ := zk_o2 mh183
                    obtain mk204 := mb_look hT hR ck17 mh203
                    have mh183 := zk_t ((BR_E (n := 119) mk204 (by decide)).mpr (by omega)) mh183
                    unfold B_X12_readEnding_203 at mh183
                    obtain ⟨mr_52, mu_53, mh205, mh183⟩ := zk_o2 mh183
                    obtain mk206 := mb_look hT hR ck17 mh205
                    have mh183 := zk_t ((BR_E (n := 119) mk206 (by decide)).mpr (by omega)) mh183
                    unfold B_X12_readEnding_222 at mh183
                    obtain ⟨_, mh183⟩ := zk_gd mh183
                    obtain ⟨mf_57, me207, mh183⟩ := zk_lt mh183
                    obtain ⟨mv_58, me208, mh183⟩ := zk_lt mh183
                    subst me208
                    simp only [Option.some.injEq, Prod.mk.injEq] at mh183
                    obtain ⟨rfl, rfl, rfl, rfl, rfl⟩ := mh183
                    subst me186
                    subst me188
                    subst me201
                    subst me207
                    first | (exfalso; omega) | (refine Or.inr ⟨rfl, ck48, by first | decide | omega, by first | decide | omega, _, by first | exact ⟨fun z => absurd z (by decide), fun _ => rfl⟩ | exact ⟨fun _ => by rw [(nm_digit (ts := ts) (tb := tb) (a := ((at_ + 1) + (1 : Int32))) (by omega)).1, BR_v mk191 (by have hbz : bZ ts tb ((at_ + 1) + (1 : Int32)) = (bz ts tb ((at_ + 1) + (1 : Int32))).toInt := rfl; omega)], fun z => absurd rfl z⟩ | exact ⟨fun _ => by rw [(nm_digit (ts := ts) (tb := tb) (a := ((at_ + 1) + (1 : Int32))) (by omega)).1, BR_v mk199 (by have hbz : bZ ts tb ((at_ + 1) + (1 : Int32)) = (bz ts tb ((at_ + 1) + (1 : Int32))).toInt := rfl; omega)], fun z => absurd rfl z⟩, k⟩)
                  · replace mq197 := mq197.symm
                    subst mq197
                    try rw [z32L_9] at mk194
                    have mh183 := zk_t (by decide) mh183
                    obtain ⟨mu_40, mh209, mh183⟩ := zk_o1 mh183
                    obtain mq210 := mb_wrongN hf mh209
                    replace mq210 := mq210.symm
                    subst mq210
                    simp only [Option.some.injEq, Prod.mk.injEq] at mh183
                    obtain ⟨rfl, rfl, rfl, rfl, rfl⟩ := mh183
                    replace k := zk_o3 k
                    obtain ⟨mr_54, mu_55, mu_56, mh211, k⟩ := k
                    obtain ⟨mq212, mq213, mq214⟩ := mb_takesP (ck10).1 mh211
                    replace mq212 := mq212.symm
                    subst mq212
                    replace mq213 := mq213.symm
                    subst mq213
                    replace mq214 := mq214.symm
                    subst mq214
                    replace k := zk_t (by decide) k
                    subst me186
                    subst me188
                    replace k := Option.some.inj k
                    rw [← k]
                    first | (exfalso; omega) | exact Or.inl ⟨by omega, rfl, ⟨by intro j hj; first | rfl | exact upd_n hj | exact (upd_n hj).trans (upd_n hj), by intro j hj; first | rfl | exact upd_n hj | exact (upd_n hj).trans (upd_n hj), by intro j hj; first | rfl | exact upd_n hj | exact (upd_n hj).trans (upd_n hj), by intro j hj; first | rfl | exact upd_n hj | exact (upd_n hj).trans (upd_n hj), by intro j hj; first | rfl | exact upd_n hj | exact (upd_n hj).trans (upd_n hj), by intro j hj; first | rfl | exact upd_n hj | exact (upd_n hj).trans (upd_n hj), by intro j hj; first | rfl | exact upd_n hj | exact (upd_n hj).trans (upd_n hj), by intro j hj; first | rfl | exact upd_n hj | exact (upd_n hj).trans (upd_n hj), fun _ _ => rfl, fun _ _ => rfl⟩⟩
                · have mh183 := zk_f mc192 mh183
                  have mc192n := mc192
                  (try simp only [i32_lt, i32_le, i32_e, z32_0, z32_1, z32L_9] at mc192n)
                  obtain ⟨_, mh183⟩ := zk_gd mh183
                  unfold B_X12_readEnding_146 at mh183
                  obtain ⟨mr_29, mu_30, mh215, mh183⟩ := zk_o2 mh183
                  rcases mb_first mk191 (by omega) mh215 with ⟨mq218, mk216, mk217⟩ | ⟨mq219, mk216⟩
                  · replace mq218 := mq218.symm
                    subst mq218
                    try rw [z32L_9] at mk217
                    have mh183 := zk_f (by decide) mh183
                    obtain ⟨mr_33, mu_34, mh220, mh183⟩ := zk_o2 mh183
                    obtain mk221 := mb_look hT hR ck10 mh220
                    obtain ⟨mv_36, me222, mh183⟩ := zk_lt mh183
                    subst me222
                    obtain ⟨_, mh183⟩ := zk_gd mh183
                    obtain ⟨mf_38, me223, mh183⟩ := zk_lt mh183
                    obtain ⟨mv_39, me224, mh183⟩ := zk_lt mh183
                    subst me224
                    unfold B_X12_readEnding_180 at mh183
                    obtain ⟨mr_42, mu_43, mh225, mh183⟩ := zk_o2 mh183
                    obtain mk226 := mb_look hT hR ck17 mh225
                    have mh183 := zk_t ((BR_E (n := 119) mk226 (by decide)).mpr (by omega)) mh183
                    unfold B_X12_readEnding_203 at mh183
                    obtain ⟨mr_52, mu_53, mh227, mh183⟩ := zk_o2 mh183
                    obtain mk228 := mb_look hT hR ck17 mh227
                    have mh183 := zk_t ((BR_E (n := 119) mk228 (by decide)).mpr (by omega)) mh183
                    unfold B_X12_readEnding_222 at mh183
                    obtain ⟨_, mh183⟩ := zk_gd mh183
                    obtain ⟨mf_57, me229, mh183⟩ := zk_lt mh183
                    obtain ⟨mv_58, me230, mh183⟩ := zk_lt mh183
                    subst me230
                    simp only [Option.some.injEq, Prod.mk.injEq] at mh183
                    obtain ⟨rfl, rfl, rfl, rfl, rfl⟩ := mh183
                    subst me186
                    subst me188
                    subst me223
                    subst me229
                    first | (exfalso; omega) | (refine Or.inr ⟨rfl, ck48, by first | decide | omega, by first | decide | omega, _, by first | exact ⟨fun z => absurd z (by decide), fun _ => rfl⟩ | exact ⟨fun _ => by rw [(nm_digit (ts := ts) (tb := tb) (a := ((at_ + 1) + (1 : Int32))) (by omega)).1, BR_v mk191 (by have hbz : bZ ts tb ((at_ + 1) + (1 : Int32)) = (bz ts tb ((at_ + 1) + (1 : Int32))).toInt := rfl; omega)], fun z => absurd rfl z⟩ | exact ⟨fun _ => by rw [(nm_digit (ts := ts) (tb := tb) (a := ((at_ + 1) + (1 : Int32))) (by omega)).1, BR_v mk221 (by have hbz : bZ ts tb ((at_ + 1) + (1 : Int32)) = (bz ts tb ((at_ + 1) + (1 : Int32))).toInt := rfl; omega)], fun z => absurd rfl z⟩, k⟩)
                  · replace mq219 := mq219.symm
                    subst mq219
                    try rw [z32L_9] at mk216
                    have mh183 := zk_t (by decide) mh183
                    obtain ⟨mu_40, mh231, mh183⟩ := zk_o1 mh183
                    obtain mq232 := mb_wrongN hf mh231
                    replace mq232 := mq232.symm
                    subst mq232
                    simp only [Option.some.injEq, Prod.mk.injEq] at mh183
                    obtain ⟨rfl, rfl, rfl, rfl, rfl⟩ := mh183
                    replace k := zk_o3 k
                    obtain ⟨mr_54, mu_55, mu_56, mh233, k⟩ := k
                    obtain ⟨mq234, mq235, mq236⟩ := mb_takesP (ck10).1 mh233
                    replace mq234 := mq234.symm
                    subst mq234
                    replace mq235 := mq235.symm
                    subst mq235
                    replace mq236 := mq236.symm
                    subst mq236
                    replace k := zk_t (by decide) k
                    subst me186
                    subst me188
                    replace k := Option.some.inj k
                    rw [← k]
                    first | (exfalso; omega) | exact Or.inl ⟨by omega, rfl, ⟨by intro j hj; first | rfl | exact upd_n hj | exact (upd_n hj).trans (upd_n hj), by intro j hj; first | rfl | exact upd_n hj | exact (upd_n hj).trans (upd_n hj), by intro j hj; first | rfl | exact upd_n hj | exact (upd_n hj).trans (upd_n hj), by intro j hj; first | rfl | exact upd_n hj | exact (upd_n hj).trans (upd_n hj), by intro j hj; first | rfl | exact upd_n hj | exact (upd_n hj).trans (upd_n hj), by intro j hj; first | rfl | exact upd_n hj | exact (upd_n hj).trans (upd_n hj), by intro j hj; first | rfl | exact upd_n hj | exact (upd_n hj).trans (upd_n hj), by intro j hj; first | rfl | exact upd_n hj | exact (upd_n hj).trans (upd_n hj), fun _ _ => rfl, fun _ _ => rfl⟩⟩
              · exact (mk178 ck2).elim
            · replace cq51 := cq51.symm
              subst cq51
              replace cq52 := cq52.symm
              subst cq52
              replace h := zk_t (by decide) h
              unfold B_X8_readEnding_138 at h
              replace h := zk_t (by decide) h
              replace h := zk_o2 h
              obtain ⟨cu_38, cu_39, ch53, h⟩ := h
              rcases cb_expectN (n := 108) hT hf ck17 (by decide) ch53 with ⟨ck54, cq56, cq57, ck55⟩ | ⟨ck54, cq58, cq59⟩
              · replace cq56 := cq56.symm
                subst cq56
                replace cq57 := cq57.symm
                subst cq57
                have ck55a := ck55.1
                simp only [Option.some.injEq, Prod.mk.injEq] at h
                obtain ⟨rfl, rfl, rfl, rfl, rfl, rfl⟩ := h
                replace k := zk_o3 k
                obtain ⟨mr_43, mu_44, mu_45, mh237, k⟩ := k
                rcases mb_takesN (n := 61) hT hR hf hp (by decide) mh237 with ⟨mk238, mq240, mq241, mq242, mk239⟩ | ⟨mk238, _, _, _⟩
                · replace mq240 := mq240.symm
                  subst mq240
                  replace mq241 := mq241.symm
                  subst mq241
                  replace mq242 := mq242.symm
                  subst mq242
                  have mk239a := mk239.1
                  replace k := zk_f (by decide) k
                  replace k := zk_o5 k
                  obtain ⟨mu_48, mu_49, mu_50, mu_51, mu_52, mh243, k⟩ := k
                  unfold f_X12_readEnding at mh243
                  unfold B_X12_readEnding_0 at mh243
                  obtain ⟨mr_1, mu_2, mh244, mh243⟩ := zk_o2 mh243
                  obtain mk245 := mb_look hT hR mk239 mh244
                  have mh243 := zk_f (fun z => absurd ((BR_E (n := 109) mk245 (by decide)).mp z) (by omega)) mh243
                  have mh243 := zk_f (fun z => absurd ((BR_E (n := 102) mk245 (by decide)).mp z) (by omega)) mh243
                  have mh243 := zk_f (fun z => absurd ((BR_E (n := 97) mk245 (by decide)).mp z) (by omega)) mh243
                  have mh243 := zk_f (fun z => absurd ((BR_E (n := 100) mk245 (by decide)).mp z) (by omega)) mh243
                  have mh243 := zk_t ((BR_E (n := 112) mk245 (by decide)).mpr (by omega)) mh243
                  unfold B_X12_readEnding_40 at mh243
                  have mh243 := zk_f (fun z => absurd ((BR_E (n := 109) mk245 (by decide)).mp z) (by omega)) mh243
                  have mh243 := zk_f (fun z => absurd ((BR_E (n := 102) mk245 (by decide)).mp z) (by omega)) mh243
                  have mh243 := zk_f (fun z => absurd ((BR_E (n := 97) mk245 (by decide)).mp z) (by omega)) mh243
                  have mh243 := zk_f (fun z => absurd ((BR_E (n := 100) mk245 (by decide)).mp z) (by omega)) mh243
                  unfold B_X12_readEnding_87 at mh243
                  rw [hq] at mh243
                  obtain ⟨_, mh243⟩ := zk_gd mh243
                  obtain ⟨mf_16, me246, mh243⟩ := zk_lt mh243
                  obtain ⟨_, mh243⟩ := zk_gd mh243
                  obtain ⟨mv_18, me247, mh243⟩ := zk_lt mh243
                  replace me247 := me247.symm
                  subst me247
                  obtain ⟨_, mh243⟩ := zk_gd mh243
                  obtain ⟨mf_20, me248, mh243⟩ := zk_lt mh243
                  obtain ⟨mv_21, me249, mh243⟩ := zk_lt mh243
                  subst me249
                  have mh243 := zk_t ((BR_E (n := 112) mk245 (by decide)).mpr (by omega)) mh243
                  obtain ⟨mr_23, mu_24, mh250, mh243⟩ := zk_o2 mh243
                  obtain mk251 := mb_look hT hR ck10 mh250
                  obtain ⟨_, mh243⟩ := zk_gd mh243
                  by_cases mc252 : (9 : Int32) ≤ su_askedCount
                  · have mh243 := zk_t mc252 mh243
                    have mc252n := mc252
                    (try simp only [i32_lt, i32_le, i32_e, z32_0, z32_1, z32L_9] at mc252n)
                    unfold B_X12_readEnding_146 at mh243
                    obtain ⟨mr_29, mu_30, mh253, mh243⟩ := zk_o2 mh243
                    rcases mb_first mk251 (by decide) mh253 with ⟨mq256, mk254, mk255⟩ | ⟨mq257, mk254⟩
                    · replace mq256 := mq256.symm
                      subst mq256
                      try rw [z32L_9] at mk255
                      have mh243 := zk_f (by decide) mh243
                      obtain ⟨mr_33, mu_34, mh258, mh243⟩ := zk_o2 mh243
                      obtain mk259 := mb_look hT hR ck10 mh258
                      obtain ⟨mv_36, me260, mh243⟩ := zk_lt mh243
                      subst me260
                      obtain ⟨_, mh243⟩ := zk_gd mh243
                      obtain ⟨mf_38, me261, mh243⟩ := zk_lt mh243
                      obtain ⟨mv_39, me262, mh243⟩ := zk_lt mh243
                      subst me262
                      unfold B_X12_readEnding_180 at mh243
                      obtain ⟨mr_42, mu_43, mh263, mh243⟩ := zk_o2 mh243
                      obtain mk264 := mb_look hT hR ck17 mh263
                      have mh243 := zk_f (fun z => absurd ((BR_E (n := 119) mk264 (by decide)).mp z) (by omega)) mh243
                      obtain ⟨mr_46, mu_47, mh265, mh243⟩ := zk_o2 mh243
                      obtain mk266 := mb_look hT hR ck17 mh265
                      have mh243 := zk_t ((BR_E (n := 108) mk266 (by decide)).mpr (by omega)) mh243
                      unfold B_X12_readEnding_203 at mh243
                      obtain ⟨mr_52, mu_53, mh267, mh243⟩ := zk_o2 mh243
                      obtain mk268 := mb_look hT hR ck17 mh267
                      have mh243 := zk_f (fun z => absurd ((BR_E (n := 119) mk268 (by decide)).mp z) (by omega)) mh243
                      unfold B_X12_readEnding_222 at mh243
                      obtain ⟨_, mh243⟩ := zk_gd mh243
                      obtain ⟨mf_57, me269, mh243⟩ := zk_lt mh243
                      obtain ⟨mv_58, me270, mh243⟩ := zk_lt mh243
                      subst me270
                      simp only [Option.some.injEq, Prod.mk.injEq] at mh243
                      obtain ⟨rfl, rfl, rfl, rfl, rfl⟩ := mh243
                      subst me246
                      subst me248
                      subst me261
                      subst me269
                      first | (exfalso; omega) | (refine Or.inr ⟨rfl, ck55, by first | decide | omega, by first | decide | omega, _, by first | exact ⟨fun z => absurd z (by decide), fun _ => rfl⟩ | exact ⟨fun _ => by rw [(nm_digit (ts := ts) (tb := tb) (a := ((at_ + 1) + (1 : Int32))) (by omega)).1, BR_v mk251 (by have hbz : bZ ts tb ((at_ + 1) + (1 : Int32)) = (bz ts tb ((at_ + 1) + (1 : Int32))).toInt := rfl; omega)], fun z => absurd rfl z⟩ | exact ⟨fun _ => by rw [(nm_digit (ts := ts) (tb := tb) (a := ((at_ + 1) + (1 : Int32))) (by omega)).1, BR_v mk259 (by have hbz : bZ ts tb ((at_ + 1) + (1 : Int32)) = (bz ts tb ((at_ + 1) + (1 : Int32))).toInt := rfl; omega)], fun z => absurd rfl z⟩, k⟩)
                    · replace mq257 := mq257.symm
                      subst mq257
                      try rw [z32L_9] at mk254
                      have mh243 := zk_t (by decide) mh243
                      obtain ⟨mu_40, mh271, mh243⟩ := zk_o1 mh243
                      obtain mq272 := mb_wrongN hf mh271
                      replace mq272 := mq272.symm
                      subst mq272
                      simp only [Option.some.injEq, Prod.mk.injEq] at mh243
                      obtain ⟨rfl, rfl, rfl, rfl, rfl⟩ := mh243
                      replace k := zk_o3 k
                      obtain ⟨mr_54, mu_55, mu_56, mh273, k⟩ := k
                      obtain ⟨mq274, mq275, mq276⟩ := mb_takesP (ck10).1 mh273
                      replace mq274 := mq274.symm
                      subst mq274
                      replace mq275 := mq275.symm
                      subst mq275
                      replace mq276 := mq276.symm
                      subst mq276
                      replace k := zk_t (by decide) k
                      subst me246
                      subst me248
                      replace k := Option.some.inj k
                      rw [← k]
                      first | (exfalso; omega) | exact Or.inl ⟨by omega, rfl, ⟨by intro j hj; first | rfl | exact upd_n hj | exact (upd_n hj).trans (upd_n hj), by intro j hj; first | rfl | exact upd_n hj | exact (upd_n hj).trans (upd_n hj), by intro j hj; first | rfl | exact upd_n hj | exact (upd_n hj).trans (upd_n hj), by intro j hj; first | rfl | exact upd_n hj | exact (upd_n hj).trans (upd_n hj), by intro j hj; first | rfl | exact upd_n hj | exact (upd_n hj).trans (upd_n hj), by intro j hj; first | rfl | exact upd_n hj | exact (upd_n hj).trans (upd_n hj), by intro j hj; first | rfl | exact upd_n hj | exact (upd_n hj).trans (upd_n hj), by intro j hj; first | rfl | exact upd_n hj | exact (upd_n hj).trans (upd_n hj), fun _ _ => rfl, fun _ _ => rfl⟩⟩
                  · have mh243 := zk_f mc252 mh243
                    have mc252n := mc252
                    (try simp only [i32_lt, i32_le, i32_e, z32_0, z32_1, z32L_9] at mc252n)
                    obtain ⟨_, mh243⟩ := zk_gd mh243
                    unfold B_X12_readEnding_146 at mh243
                    obtain ⟨mr_29, mu_30, mh277, mh243⟩ := zk_o2 mh243
                    rcases mb_first mk251 (by omega) mh277 with ⟨mq280, mk278, mk279⟩ | ⟨mq281, mk278⟩
                    · replace mq280 := mq280.symm
                      subst mq280
                      try rw [z32L_9] at mk279
                      have mh243 := zk_f (by decide) mh243
                      obtain ⟨mr_33, mu_34, mh282, mh243⟩ := zk_o2 mh243
                      obtain mk283 := mb_look hT hR ck10 mh282
                      obtain ⟨mv_36, me284, mh243⟩ := zk_lt mh243
                      subst me284
                      obtain ⟨_, mh243⟩ := zk_gd mh243
                      obtain ⟨mf_38, me285, mh243⟩ := zk_lt mh243
                      obtain ⟨mv_39, me286, mh243⟩ := zk_lt mh243
                      subst me286
                      unfold B_X12_readEnding_180 at mh243
                      obtain ⟨mr_42, mu_43, mh287, mh243⟩ := zk_o2 mh243
                      obtain mk288 := mb_look hT hR ck17 mh287
                      have mh243 := zk_f (fun z => absurd ((BR_E (n := 119) mk288 (by decide)).mp z) (by omega)) mh243
                      obtain ⟨mr_46, mu_47, mh289, mh243⟩ := zk_o2 mh243
                      obtain mk290 := mb_look hT hR ck17 mh289
                      have mh243 := zk_t ((BR_E (n := 108) mk290 (by decide)).mpr (by omega)) mh243
                      unfold B_X12_readEnding_203 at mh243
                      obtain ⟨mr_52, mu_53, mh291, mh243⟩ := zk_o2 mh243
                      obtain mk292 := mb_look hT hR ck17 mh291
                      have mh243 := zk_f (fun z => absurd ((BR_E (n := 119) mk292 (by decide)).mp z) (by omega)) mh243
                      unfold B_X12_readEnding_222 at mh243
                      obtain ⟨_, mh243⟩ := zk_gd mh243
                      obtain ⟨mf_57, me293, mh243⟩ := zk_lt mh243
                      obtain ⟨mv_58, me294, mh243⟩ := zk_lt mh243
                      subst me294
                      simp only [Option.some.injEq, Prod.mk.injEq] at mh243
                      obtain ⟨rfl, rfl, rfl, rfl, rfl⟩ := mh243
                      subst me246
                      subst me248
                      subst me285
                      subst me293
                      first | (exfalso; omega) | (refine Or.inr ⟨rfl, ck55, by first | decide | omega, by first | decide | omega, _, by first | exact ⟨fun z => absurd z (by decide), fun _ => rfl⟩ | exact ⟨fun _ => by rw [(nm_digit (ts := ts) (tb := tb) (a := ((at_ + 1) + (1 : Int32))) (by omega)).1, BR_v mk251 (by have hbz : bZ ts tb ((at_ + 1) + (1 : Int32)) = (bz ts tb ((at_ + 1) + (1 : Int32))).toInt := rfl; omega)], fun z => absurd rfl z⟩ | exact ⟨fun _ => by rw [(nm_digit (ts := ts) (tb := tb) (a := ((at_ + 1) + (1 : Int32))) (by omega)).1, BR_v mk283 (by have hbz : bZ ts tb ((at_ + 1) + (1 : Int32)) = (bz ts tb ((at_ + 1) + (1 : Int32))).toInt := rfl; omega)], fun z => absurd rfl z⟩, k⟩)
                    · replace mq281 := mq281.symm
                      subst mq281
                      try rw [z32L_9] at mk278
                      have mh243 := zk_t (by decide) mh243
                      obtain ⟨mu_40, mh295, mh243⟩ := zk_o1 mh243
                      obtain mq296 := mb_wrongN hf mh295
                      replace mq296 := mq296.symm
                      subst mq296
                      simp only [Option.some.injEq, Prod.mk.injEq] at mh243
                      obtain ⟨rfl, rfl, rfl, rfl, rfl⟩ := mh243
                      replace k := zk_o3 k
                      obtain ⟨mr_54, mu_55, mu_56, mh297, k⟩ := k
                      obtain ⟨mq298, mq299, mq300⟩ := mb_takesP (ck10).1 mh297
                      replace mq298 := mq298.symm
                      subst mq298
                      replace mq299 := mq299.symm
                      subst mq299
                      replace mq300 := mq300.symm
                      subst mq300
                      replace k := zk_t (by decide) k
                      subst me246
                      subst me248
                      replace k := Option.some.inj k
                      rw [← k]
                      first | (exfalso; omega) | exact Or.inl ⟨by omega, rfl, ⟨by intro j hj; first | rfl | exact upd_n hj | exact (upd_n hj).trans (upd_n hj), by intro j hj; first | rfl | exact upd_n hj | exact (upd_n hj).trans (upd_n hj), by intro j hj; first | rfl | exact upd_n hj | exact (upd_n hj).trans (upd_n hj), by intro j hj; first | rfl | exact upd_n hj | exact (upd_n hj).trans (upd_n hj), by intro j hj; first | rfl | exact upd_n hj | exact (upd_n hj).trans (upd_n hj), by intro j hj; first | rfl | exact upd_n hj | exact (upd_n hj).trans (upd_n hj), by intro j hj; first | rfl | exact upd_n hj | exact (upd_n hj).trans (upd_n hj), by intro j hj; first | rfl | exact upd_n hj | exact (upd_n hj).trans (upd_n hj), fun _ _ => rfl, fun _ _ => rfl⟩⟩
                · exact (mk238 ck2).elim
              · replace cq58 := cq58.symm
                subst cq58
                replace cq59 := cq59.symm
                subst cq59
                simp only [Option.some.injEq, Prod.mk.injEq] at h
                obtain ⟨rfl, rfl, rfl, rfl, rfl, rfl⟩ := h
                replace k := zk_o3 k
                obtain ⟨mr_43, mu_44, mu_45, mh301, k⟩ := k
                rcases mb_takesN (n := 61) hT hR hf hp (by decide) mh301 with ⟨mk302, mq304, mq305, mq306, mk303⟩ | ⟨mk302, _, _, _⟩
                · replace mq304 := mq304.symm
                  subst mq304
                  replace mq305 := mq305.symm
                  subst mq305
                  replace mq306 := mq306.symm
                  subst mq306
                  have mk303a := mk303.1
                  replace k := zk_f (by decide) k
                  replace k := zk_o5 k
                  obtain ⟨mu_48, mu_49, mu_50, mu_51, mu_52, mh307, k⟩ := k
                  unfold f_X12_readEnding at mh307
                  unfold B_X12_readEnding_0 at mh307
                  obtain ⟨mr_1, mu_2, mh308, mh307⟩ := zk_o2 mh307
                  obtain mk309 := mb_look hT hR mk303 mh308
                  have mh307 := zk_f (fun z => absurd ((BR_E (n := 109) mk309 (by decide)).mp z) (by omega)) mh307
                  have mh307 := zk_f (fun z => absurd ((BR_E (n := 102) mk309 (by decide)).mp z) (by omega)) mh307
                  have mh307 := zk_f (fun z => absurd ((BR_E (n := 97) mk309 (by decide)).mp z) (by omega)) mh307
                  have mh307 := zk_f (fun z => absurd ((BR_E (n := 100) mk309 (by decide)).mp z) (by omega)) mh307
                  have mh307 := zk_t ((BR_E (n := 112) mk309 (by decide)).mpr (by omega)) mh307
                  unfold B_X12_readEnding_40 at mh307
                  have mh307 := zk_f (fun z => absurd ((BR_E (n := 109) mk309 (by decide)).mp z) (by omega)) mh307
                  have mh307 := zk_f (fun z => absurd ((BR_E (n := 102) mk309 (by decide)).mp z) (by omega)) mh307
                  have mh307 := zk_f (fun z => absurd ((BR_E (n := 97) mk309 (by decide)).mp z) (by omega)) mh307
                  have mh307 := zk_f (fun z => absurd ((BR_E (n := 100) mk309 (by decide)).mp z) (by omega)) mh307
                  unfold B_X12_readEnding_87 at mh307
                  rw [hq] at mh307
                  obtain ⟨_, mh307⟩ := zk_gd mh307
                  obtain ⟨mf_16, me310, mh307⟩ := zk_lt mh307
                  obtain ⟨_, mh307⟩ := zk_gd mh307
                  obtain ⟨mv_18, me311, mh307⟩ := zk_lt mh307
                  replace me311 := me311.symm
                  subst me311
                  obtain ⟨_, mh307⟩ := zk_gd mh307
                  obtain ⟨mf_20, me312, mh307⟩ := zk_lt mh307
                  obtain ⟨mv_21, me313, mh307⟩ := zk_lt mh307
                  subst me313
                  have mh307 := zk_t ((BR_E (n := 112) mk309 (by decide)).mpr (by omega)) mh307
                  obtain ⟨mr_23, mu_24, mh314, mh307⟩ := zk_o2 mh307
                  obtain mk315 := mb_look hT hR ck10 mh314
                  obtain ⟨_, mh307⟩ := zk_gd mh307
                  by_cases mc316 : (9 : Int32) ≤ su_askedCount
                  · have mh307 := zk_t mc316 mh307
                    have mc316n := mc316
                    (try simp only [i32_lt, i32_le, i32_e, z32_0, z32_1, z32L_9] at mc316n)
                    unfold B_X12_readEnding_146 at mh307
                    obtain ⟨mr_29, mu_30, mh317, mh307⟩ := zk_o2 mh307
                    rcases mb_first mk315 (by decide) mh317 with ⟨mq320, mk318, mk319⟩ | ⟨mq321, mk318⟩
                    · replace mq320 := mq320.symm
                      subst mq320
                      try rw [z32L_9] at mk319
                      have mh307 := zk_f (by decide) mh307
                      obtain ⟨mr_33, mu_34, mh322, mh307⟩ := zk_o2 mh307
                      obtain mk323 := mb_look hT hR ck10 mh322
                      obtain ⟨mv_36, me324, mh307⟩ := zk_lt mh307
                      subst me324
                      obtain ⟨_, mh307⟩ := zk_gd mh307
                      obtain ⟨mf_38, me325, mh307⟩ := zk_lt mh307
                      obtain ⟨mv_39, me326, mh307⟩ := zk_lt mh307
                      subst me326
                      unfold B_X12_readEnding_180 at mh307
                      obtain ⟨mr_42, mu_43, mh327, mh307⟩ := zk_o2 mh307
                      obtain mk328 := mb_look hT hR ck17 mh327
                      have mh307 := zk_f (fun z => absurd ((BR_E (n := 119) mk328 (by decide)).mp z) (by omega)) mh307
                      obtain ⟨mr_46, mu_47, mh329, mh307⟩ := zk_o2 mh307
                      obtain mk330 := mb_look hT hR ck17 mh329
                      have mh307 := zk_f (fun z => absurd ((BR_E (n := 108) mk330 (by decide)).mp z) (by omega)) mh307
                      obtain ⟨mu_50, mh331, mh307⟩ := zk_o1 mh307
                      obtain mq332 := mb_wrongN hf mh331
                      replace mq332 := mq332.symm
                      subst mq332
                      simp only [Option.some.injEq, Prod.mk.injEq] at mh307
                      obtain ⟨rfl, rfl, rfl, rfl, rfl⟩ := mh307
                      replace k := zk_o3 k
                      obtain ⟨mr_54, mu_55, mu_56, mh333, k⟩ := k
                      obtain ⟨mq334, mq335, mq336⟩ := mb_takesP (ck17).1 mh333
                      replace mq334 := mq334.symm
                      subst mq334
                      replace mq335 := mq335.symm
                      subst mq335
                      replace mq336 := mq336.symm
                      subst mq336
                      replace k := zk_t (by decide) k
                      subst me310
                      subst me312
                      subst me325
                      replace k := Option.some.inj k
                      rw [← k]
                      first | (exfalso; omega) | exact Or.inl ⟨(ck17).1, rfl, ⟨by intro j hj; first | rfl | exact upd_n hj | exact (upd_n hj).trans (upd_n hj), by intro j hj; first | rfl | exact upd_n hj | exact (upd_n hj).trans (upd_n hj), by intro j hj; first | rfl | exact upd_n hj | exact (upd_n hj).trans (upd_n hj), by intro j hj; first | rfl | exact upd_n hj | exact (upd_n hj).trans (upd_n hj), by intro j hj; first | rfl | exact upd_n hj | exact (upd_n hj).trans (upd_n hj), by intro j hj; first | rfl | exact upd_n hj | exact (upd_n hj).trans (upd_n hj), by intro j hj; first | rfl | exact upd_n hj | exact (upd_n hj).trans (upd_n hj), by intro j hj; first | rfl | exact upd_n hj | exact (upd_n hj).trans (upd_n hj), fun _ _ => rfl, fun _ _ => rfl⟩⟩
                    · replace mq321 := mq321.symm
                      subst mq321
                      try rw [z32L_9] at mk318
                      have mh307 := zk_t (by decide) mh307
                      obtain ⟨mu_40, mh337, mh307⟩ := zk_o1 mh307
                      obtain mq338 := mb_wrongN hf mh337
                      replace mq338 := mq338.symm
                      subst mq338
                      simp only [Option.some.injEq, Prod.mk.injEq] at mh307
                      obtain ⟨rfl, rfl, rfl, rfl, rfl⟩ := mh307
                      replace k := zk_o3 k
                      obtain ⟨mr_54, mu_55, mu_56, mh339, k⟩ := k
                      obtain ⟨mq340, mq341, mq342⟩ := mb_takesP (ck10).1 mh339
                      replace mq340 := mq340.symm
                      subst mq340
                      replace mq341 := mq341.symm
                      subst mq341
                      replace mq342 := mq342.symm
                      subst mq342
                      replace k := zk_t (by decide) k
                      subst me310
                      subst me312
                      replace k := Option.some.inj k
                      rw [← k]
                      first | (exfalso; omega) | exact Or.inl ⟨(ck17).1, rfl, ⟨by intro j hj; first | rfl | exact upd_n hj | exact (upd_n hj).trans (upd_n hj), by intro j hj; first | rfl | exact upd_n hj | exact (upd_n hj).trans (upd_n hj), by intro j hj; first | rfl | exact upd_n hj | exact (upd_n hj).trans (upd_n hj), by intro j hj; first | rfl | exact upd_n hj | exact (upd_n hj).trans (upd_n hj), by intro j hj; first | rfl | exact upd_n hj | exact (upd_n hj).trans (upd_n hj), by intro j hj; first | rfl | exact upd_n hj | exact (upd_n hj).trans (upd_n hj), by intro j hj; first | rfl | exact upd_n hj | exact (upd_n hj).trans (upd_n hj), by intro j hj; first | rfl | exact upd_n hj | exact (upd_n hj).trans (upd_n hj), fun _ _ => rfl, fun _ _ => rfl⟩⟩
                  · have mh307 := zk_f mc316 mh307
                    have mc316n := mc316
                    (try simp only [i32_lt, i32_le, i32_e, z32_0, z32_1, z32L_9] at mc316n)
                    obtain ⟨_, mh307⟩ := zk_gd mh307
                    unfold B_X12_readEnding_146 at mh307
                    obtain ⟨mr_29, mu_30, mh343, mh307⟩ := zk_o2 mh307
                    rcases mb_first mk315 (by omega) mh343 with ⟨mq346, mk344, mk345⟩ | ⟨mq347, mk344⟩
                    · replace mq346 := mq346.symm
                      subst mq346
                      try rw [z32L_9] at mk345
                      have mh307 := zk_f (by decide) mh307
                      obtain ⟨mr_33, mu_34, mh348, mh307⟩ := zk_o2 mh307
                      obtain mk349 := mb_look hT hR ck10 mh348
                      obtain ⟨mv_36, me350, mh307⟩ := zk_lt mh307
                      subst me350
                      obtain ⟨_, mh307⟩ := zk_gd mh307
                      obtain ⟨mf_38, me351, mh307⟩ := zk_lt mh307
                      obtain ⟨mv_39, me352, mh307⟩ := zk_lt mh307
                      subst me352
                      unfold B_X12_readEnding_180 at mh307
                      obtain ⟨mr_42, mu_43, mh353, mh307⟩ := zk_o2 mh307
                      obtain mk354 := mb_look hT hR ck17 mh353
                      have mh307 := zk_f (fun z => absurd ((BR_E (n := 119) mk354 (by decide)).mp z) (by omega)) mh307
                      obtain ⟨mr_46, mu_47, mh355, mh307⟩ := zk_o2 mh307
                      obtain mk356 := mb_look hT hR ck17 mh355
                      have mh307 := zk_f (fun z => absurd ((BR_E (n := 108) mk356 (by decide)).mp z) (by omega)) mh307
                      obtain ⟨mu_50, mh357, mh307⟩ := zk_o1 mh307
                      obtain mq358 := mb_wrongN hf mh357
                      replace mq358 := mq358.symm
                      subst mq358
                      simp only [Option.some.injEq, Prod.mk.injEq] at mh307
                      obtain ⟨rfl, rfl, rfl, rfl, rfl⟩ := mh307
                      replace k := zk_o3 k
                      obtain ⟨mr_54, mu_55, mu_56, mh359, k⟩ := k
                      obtain ⟨mq360, mq361, mq362⟩ := mb_takesP (ck17).1 mh359
                      replace mq360 := mq360.symm
                      subst mq360
                      replace mq361 := mq361.symm
                      subst mq361
                      replace mq362 := mq362.symm
                      subst mq362
                      replace k := zk_t (by decide) k
                      subst me310
                      subst me312
                      subst me351
                      replace k := Option.some.inj k
                      rw [← k]
                      first | (exfalso; omega) | exact Or.inl ⟨(ck17).1, rfl, ⟨by intro j hj; first | rfl | exact upd_n hj | exact (upd_n hj).trans (upd_n hj), by intro j hj; first | rfl | exact upd_n hj | exact (upd_n hj).trans (upd_n hj), by intro j hj; first | rfl | exact upd_n hj | exact (upd_n hj).trans (upd_n hj), by intro j hj; first | rfl | exact upd_n hj | exact (upd_n hj).trans (upd_n hj), by intro j hj; first | rfl | exact upd_n hj | exact (upd_n hj).trans (upd_n hj), by intro j hj; first | rfl | exact upd_n hj | exact (upd_n hj).trans (upd_n hj), by intro j hj; first | rfl | exact upd_n hj | exact (upd_n hj).trans (upd_n hj), by intro j hj; first | rfl | exact upd_n hj | exact (upd_n hj).trans (upd_n hj), fun _ _ => rfl, fun _ _ => rfl⟩⟩
                    · replace mq347 := mq347.symm
                      subst mq347
                      try rw [z32L_9] at mk344
                      have mh307 := zk_t (by decide) mh307
                      obtain ⟨mu_40, mh363, mh307⟩ := zk_o1 mh307
                      obtain mq364 := mb_wrongN hf mh363
                      replace mq364 := mq364.symm
                      subst mq364
                      simp only [Option.some.injEq, Prod.mk.injEq] at mh307
                      obtain ⟨rfl, rfl, rfl, rfl, rfl⟩ := mh307
                      replace k := zk_o3 k
                      obtain ⟨mr_54, mu_55, mu_56, mh365, k⟩ := k
                      obtain ⟨mq366, mq367, mq368⟩ := mb_takesP (ck10).1 mh365
                      replace mq366 := mq366.symm
                      subst mq366
                      replace mq367 := mq367.symm
                      subst mq367
                      replace mq368 := mq368.symm
                      subst mq368
                      replace k := zk_t (by decide) k
                      subst me310
                      subst me312
                      replace k := Option.some.inj k
                      rw [← k]
                      first | (exfalso; omega) | exact Or.inl ⟨(ck17).1, rfl, ⟨by intro j hj; first | rfl | exact upd_n hj | exact (upd_n hj).trans (upd_n hj), by intro j hj; first | rfl | exact upd_n hj | exact (upd_n hj).trans (upd_n hj), by intro j hj; first | rfl | exact upd_n hj | exact (upd_n hj).trans (upd_n hj), by intro j hj; first | rfl | exact upd_n hj | exact (upd_n hj).trans (upd_n hj), by intro j hj; first | rfl | exact upd_n hj | exact (upd_n hj).trans (upd_n hj), by intro j hj; first | rfl | exact upd_n hj | exact (upd_n hj).trans (upd_n hj), by intro j hj; first | rfl | exact upd_n hj | exact (upd_n hj).trans (upd_n hj), by intro j hj; first | rfl | exact upd_n hj | exact (upd_n hj).trans (upd_n hj), fun _ _ => rfl, fun _ _ => rfl⟩⟩
                · exact (mk302 ck2).elim
      · replace cq22 := cq22.symm
        subst cq22
        replace cq23 := cq23.symm
        subst cq23
        replace cq24 := cq24.symm
        subst cq24
        replace cq25 := cq25.symm
        subst cq25
        replace h := zk_t (by decide) h
        unfold B_X8_readEnding_54 at h
        unfold B_X8_readEnding_55 at h
        replace h := zk_o1 h
        obtain ⟨cu_27, ch60, h⟩ := h
        obtain cq61 := cb_judgeP (ck10).1 ch60
        replace cq61 := cq61.symm
        subst cq61
        unfold B_X8_readEnding_123 at h
        replace h := zk_o2 h
        obtain ⟨cr_33, cu_34, ch62, h⟩ := h
        obtain ⟨cq63, cq64⟩ := cb_acceptP (ck10).1 ch62
        replace cq63 := cq63.symm
        subst cq63
        replace cq64 := cq64.symm
        subst cq64
        replace h := zk_t (by decide) h
        unfold B_X8_readEnding_138 at h
        replace h := zk_t (by decide) h
        replace h := zk_o2 h
        obtain ⟨cu_38, cu_39, ch65, h⟩ := h
        obtain ⟨cq66, cq67⟩ := cb_expectP (ck10).1 ch65
        replace cq66 := cq66.symm
        subst cq66
        replace cq67 := cq67.symm
        subst cq67
        simp only [Option.some.injEq, Prod.mk.injEq] at h
        obtain ⟨rfl, rfl, rfl, rfl, rfl, rfl⟩ := h
        replace k := zk_o3 k
        obtain ⟨mr_43, mu_44, mu_45, mh369, k⟩ := k
        rcases mb_takesN (n := 61) hT hR hf hp (by decide) mh369 with ⟨mk370, mq372, mq373, mq374, mk371⟩ | ⟨mk370, _, _, _⟩
        · replace mq372 := mq372.symm
          subst mq372
          replace mq373 := mq373.symm
          subst mq373
          replace mq374 := mq374.symm
          subst mq374
          have mk371a := mk371.1
          replace k := zk_f (by decide) k
          replace k := zk_o5 k
          obtain ⟨mu_48, mu_49, mu_50, mu_51, mu_52, mh375, k⟩ := k
          unfold f_X12_readEnding at mh375
          unfold B_X12_readEnding_0 at mh375
          obtain ⟨mr_1, mu_2, mh376, mh375⟩ := zk_o2 mh375
          obtain mk377 := mb_look hT hR mk371 mh376
          have mh375 := zk_f (fun z => absurd ((BR_E (n := 109) mk377 (by decide)).mp z) (by omega)) mh375
          have mh375 := zk_f (fun z => absurd ((BR_E (n := 102) mk377 (by decide)).mp z) (by omega)) mh375
          have mh375 := zk_f (fun z => absurd ((BR_E (n := 97) mk377 (by decide)).mp z) (by omega)) mh375
          have mh375 := zk_f (fun z => absurd ((BR_E (n := 100) mk377 (by decide)).mp z) (by omega)) mh375
          have mh375 := zk_t ((BR_E (n := 112) mk377 (by decide)).mpr (by omega)) mh375
          unfold B_X12_readEnding_40 at mh375
          have mh375 := zk_f (fun z => absurd ((BR_E (n := 109) mk377 (by decide)).mp z) (by omega)) mh375
          have mh375 := zk_f (fun z => absurd ((BR_E (n := 102) mk377 (by decide)).mp z) (by omega)) mh375
          have mh375 := zk_f (fun z => absurd ((BR_E (n := 97) mk377 (by decide)).mp z) (by omega)) mh375
          have mh375 := zk_f (fun z => absurd ((BR_E (n := 100) mk377 (by decide)).mp z) (by omega)) mh375
          unfold B_X12_readEnding_87 at mh375
          rw [hq] at mh375
          obtain ⟨_, mh375⟩ := zk_gd mh375
          obtain ⟨mf_16, me378, mh375⟩ := zk_lt mh375
          obtain ⟨_, mh375⟩ := zk_gd mh375
          obtain ⟨mv_18, me379, mh375⟩ := zk_lt mh375
          replace me379 := me379.symm
          subst me379
          obtain ⟨_, mh375⟩ := zk_gd mh375
          obtain ⟨mf_20, me380, mh375⟩ := zk_lt mh375
          obtain ⟨mv_21, me381, mh375⟩ := zk_lt mh375
          subst me381
          have mh375 := zk_t ((BR_E (n := 112) mk377 (by decide)).mpr (by omega)) mh375
          obtain ⟨mr_23, mu_24, mh382, mh375⟩ := zk_o2 mh375
          obtain mk383 := mb_look hT hR ck10 mh382
          obtain ⟨_, mh375⟩ := zk_gd mh375
          by_cases mc384 : (9 : Int32) ≤ su_askedCount
          · have mh375 := zk_t mc384 mh375
            have mc384n := mc384
            (try simp only [i32_lt, i32_le, i32_e, z32_0, z32_1, z32L_9] at mc384n)
            unfold B_X12_readEnding_146 at mh375
            obtain ⟨mr_29, mu_30, mh385, mh375⟩ := zk_o2 mh375
            rcases mb_first mk383 (by decide) mh385 with ⟨mq388, mk386, mk387⟩ | ⟨mq389, mk386⟩
            · replace mq388 := mq388.symm
              subst mq388
              try rw [z32L_9] at mk387
              have mh375 := zk_f (by decide) mh375
              obtain ⟨mr_33, mu_34, mh390, mh375⟩ := zk_o2 mh375
              obtain mk391 := mb_look hT hR ck10 mh390
              obtain ⟨mv_36, me392, mh375⟩ := zk_lt mh375
              subst me392
              obtain ⟨_, mh375⟩ := zk_gd mh375
              obtain ⟨mf_38, me393, mh375⟩ := zk_lt mh375
              obtain ⟨mv_39, me394, mh375⟩ := zk_lt mh375
              subst me394
              unfold B_X12_readEnding_180 at mh375
              obtain ⟨mr_42, mu_43, mh395, mh375⟩ := zk_o2 mh375
              obtain mk396 := mb_look hT hR (PB_s (tb := tb) hT ck10 (by omega)) mh395
              by_cases mc397 : mr_42 = (119 : Int32)
              · have mh375 := zk_t mc397 mh375
                have mc397n := (BR_E (n := 119) mk396 (by decide)).mp mc397
                unfold B_X12_readEnding_203 at mh375
                obtain ⟨mr_52, mu_53, mh398, mh375⟩ := zk_o2 mh375
                obtain mk399 := mb_look hT hR (PB_s (tb := tb) hT ck10 (by omega)) mh398
                have mh375 := zk_t ((BR_E (n := 119) mk399 (by decide)).mpr (by omega)) mh375
                unfold B_X12_readEnding_222 at mh375
                obtain ⟨_, mh375⟩ := zk_gd mh375
                obtain ⟨mf_57, me400, mh375⟩ := zk_lt mh375
                obtain ⟨mv_58, me401, mh375⟩ := zk_lt mh375
                subst me401
                simp only [Option.some.injEq, Prod.mk.injEq] at mh375
                obtain ⟨rfl, rfl, rfl, rfl, rfl⟩ := mh375
                subst me378
                subst me380
                subst me393
                subst me400
                exfalso; omega
              · have mh375 := zk_f mc397 mh375
                have mc397n := (fun z => mc397 ((BR_E (n := 119) mk396 (by decide)).mpr z))
                obtain ⟨mr_46, mu_47, mh402, mh375⟩ := zk_o2 mh375
                obtain mk403 := mb_look hT hR (PB_s (tb := tb) hT ck10 (by omega)) mh402
                by_cases mc404 : mr_46 = (108 : Int32)
                · have mh375 := zk_t mc404 mh375
                  have mc404n := (BR_E (n := 108) mk403 (by decide)).mp mc404
                  unfold B_X12_readEnding_203 at mh375
                  obtain ⟨mr_52, mu_53, mh405, mh375⟩ := zk_o2 mh375
                  obtain mk406 := mb_look hT hR (PB_s (tb := tb) hT ck10 (by omega)) mh405
                  have mh375 := zk_f (fun z => absurd ((BR_E (n := 119) mk406 (by decide)).mp z) (by omega)) mh375
                  unfold B_X12_readEnding_222 at mh375
                  obtain ⟨_, mh375⟩ := zk_gd mh375
                  obtain ⟨mf_57, me407, mh375⟩ := zk_lt mh375
                  obtain ⟨mv_58, me408, mh375⟩ := zk_lt mh375
                  subst me408
                  simp only [Option.some.injEq, Prod.mk.injEq] at mh375
                  obtain ⟨rfl, rfl, rfl, rfl, rfl⟩ := mh375
                  subst me378
                  subst me380
                  subst me393
                  subst me407
                  exfalso; omega
                · have mh375 := zk_f mc404 mh375
                  have mc404n := (fun z => mc404 ((BR_E (n := 108) mk403 (by decide)).mpr z))
                  obtain ⟨mu_50, mh409, mh375⟩ := zk_o1 mh375
                  obtain mq410 := mb_wrongN hf mh409
                  replace mq410 := mq410.symm
                  subst mq410
                  simp only [Option.some.injEq, Prod.mk.injEq] at mh375
                  obtain ⟨rfl, rfl, rfl, rfl, rfl⟩ := mh375
                  replace k := zk_o3 k
                  obtain ⟨mr_54, mu_55, mu_56, mh411, k⟩ := k
                  obtain ⟨mq412, mq413, mq414⟩ := mb_takesP ((PB_s (tb := tb) hT ck10 (by omega))).1 mh411
                  replace mq412 := mq412.symm
                  subst mq412
                  replace mq413 := mq413.symm
                  subst mq413
                  replace mq414 := mq414.symm
                  subst mq414
                  replace k := zk_t (by decide) k
                  subst me378
                  subst me380
                  subst me393
                  replace k := Option.some.inj k
                  rw [← k]
                  first | (exfalso; omega) | exact Or.inl ⟨(ck10).1, rfl, ⟨by intro j hj; first | rfl | exact upd_n hj | exact (upd_n hj).trans (upd_n hj), by intro j hj; first | rfl | exact upd_n hj | exact (upd_n hj).trans (upd_n hj), by intro j hj; first | rfl | exact upd_n hj | exact (upd_n hj).trans (upd_n hj), by intro j hj; first | rfl | exact upd_n hj | exact (upd_n hj).trans (upd_n hj), by intro j hj; first | rfl | exact upd_n hj | exact (upd_n hj).trans (upd_n hj), by intro j hj; first | rfl | exact upd_n hj | exact (upd_n hj).trans (upd_n hj), by intro j hj; first | rfl | exact upd_n hj | exact (upd_n hj).trans (upd_n hj), by intro j hj; first | rfl | exact upd_n hj | exact (upd_n hj).trans (upd_n hj), fun _ _ => rfl, fun _ _ => rfl⟩⟩
            · replace mq389 := mq389.symm
              subst mq389
              try rw [z32L_9] at mk386
              have mh375 := zk_t (by decide) mh375
              obtain ⟨mu_40, mh415, mh375⟩ := zk_o1 mh375
              obtain mq416 := mb_wrongN hf mh415
              replace mq416 := mq416.symm
              subst mq416
              simp only [Option.some.injEq, Prod.mk.injEq] at mh375
              obtain ⟨rfl, rfl, rfl, rfl, rfl⟩ := mh375
              replace k := zk_o3 k
              obtain ⟨mr_54, mu_55, mu_56, mh417, k⟩ := k
              obtain ⟨mq418, mq419, mq420⟩ := mb_takesP (ck10).1 mh417
              replace mq418 := mq418.symm
              subst mq418
              replace mq419 := mq419.symm
              subst mq419
              replace mq420 := mq420.symm
              subst mq420
              replace k := zk_t (by decide) k
              subst me378
              subst me380
              replace k := Option.some.inj k
              rw [← k]
              first | (exfalso; omega) | exact Or.inl ⟨(ck10).1, rfl, ⟨by intro j hj; first | rfl | exact upd_n hj | exact (upd_n hj).trans (upd_n hj), by intro j hj; first | rfl | exact upd_n hj | exact (upd_n hj).trans (upd_n hj), by intro j hj; first | rfl | exact upd_n hj | exact (upd_n hj).trans (upd_n hj), by intro j hj; first | rfl | exact upd_n hj | exact (upd_n hj).trans (upd_n hj), by intro j hj; first | rfl | exact upd_n hj | exact (upd_n hj).trans (upd_n hj), by intro j hj; first | rfl | exact upd_n hj | exact (upd_n hj).trans (upd_n hj), by intro j hj; first | rfl | exact upd_n hj | exact (upd_n hj).trans (upd_n hj), by intro j hj; first | rfl | exact upd_n hj | exact (upd_n hj).trans (upd_n hj), fun _ _ => rfl, fun _ _ => rfl⟩⟩
          · have mh375 := zk_f mc384 mh375
            have mc384n := mc384
            (try simp only [i32_lt, i32_le, i32_e, z32_0, z32_1, z32L_9] at mc384n)
            obtain ⟨_, mh375⟩ := zk_gd mh375
            unfold B_X12_readEnding_146 at mh375
            obtain ⟨mr_29, mu_30, mh421, mh375⟩ := zk_o2 mh375
            rcases mb_first mk383 (by omega) mh421 with ⟨mq424, mk422, mk423⟩ | ⟨mq425, mk422⟩
            · replace mq424 := mq424.symm
              subst mq424
              try rw [z32L_9] at mk423
              have mh375 := zk_f (by decide) mh375
              obtain ⟨mr_33, mu_34, mh426, mh375⟩ := zk_o2 mh375
              obtain mk427 := mb_look hT hR ck10 mh426
              obtain ⟨mv_36, me428, mh375⟩ := zk_lt mh375
              subst me428
              obtain ⟨_, mh375⟩ := zk_gd mh375
              obtain ⟨mf_38, me429, mh375⟩ := zk_lt mh375
              obtain ⟨mv_39, me430, mh375⟩ := zk_lt mh375
              subst me430
              unfold B_X12_readEnding_180 at mh375
              obtain ⟨mr_42, mu_43, mh431, mh375⟩ := zk_o2 mh375
              obtain mk432 := mb_look hT hR (PB_s (tb := tb) hT ck10 (by omega)) mh431
              by_cases mc433 : mr_42 = (119 : Int32)
              · have mh375 := zk_t mc433 mh375
                have mc433n := (BR_E (n := 119) mk432 (by decide)).mp mc433
                unfold B_X12_readEnding_203 at mh375
                obtain ⟨mr_52, mu_53, mh434, mh375⟩ := zk_o2 mh375
                obtain mk435 := mb_look hT hR (PB_s (tb := tb) hT ck10 (by omega)) mh434
                have mh375 := zk_t ((BR_E (n := 119) mk435 (by decide)).mpr (by omega)) mh375
                unfold B_X12_readEnding_222 at mh375
                obtain ⟨_, mh375⟩ := zk_gd mh375
                obtain ⟨mf_57, me436, mh375⟩ := zk_lt mh375
                obtain ⟨mv_58, me437, mh375⟩ := zk_lt mh375
                subst me437
                simp only [Option.some.injEq, Prod.mk.injEq] at mh375
                obtain ⟨rfl, rfl, rfl, rfl, rfl⟩ := mh375
                subst me378
                subst me380
                subst me429
                subst me436
                exfalso; omega
              · have mh375 := zk_f mc433 mh375
                have mc433n := (fun z => mc433 ((BR_E (n := 119) mk432 (by decide)).mpr z))
                obtain ⟨mr_46, mu_47, mh438, mh375⟩ := zk_o2 mh375
                obtain mk439 := mb_look hT hR (PB_s (tb := tb) hT ck10 (by omega)) mh438
                by_cases mc440 : mr_46 = (108 : Int32)
                · have mh375 := zk_t mc440 mh375
                  have mc440n := (BR_E (n := 108) mk439 (by decide)).mp mc440
                  unfold B_X12_readEnding_203 at mh375
                  obtain ⟨mr_52, mu_53, mh441, mh375⟩ := zk_o2 mh375
                  obtain mk442 := mb_look hT hR (PB_s (tb := tb) hT ck10 (by omega)) mh441
                  have mh375 := zk_f (fun z => absurd ((BR_E (n := 119) mk442 (by decide)).mp z) (by omega)) mh375
                  unfold B_X12_readEnding_222 at mh375
                  obtain ⟨_, mh375⟩ := zk_gd mh375
                  obtain ⟨mf_57, me443, mh375⟩ := zk_lt mh375
                  obtain ⟨mv_58, me444, mh375⟩ := zk_lt mh375
                  subst me444
                  simp only [Option.some.injEq, Prod.mk.injEq] at mh375
                  obtain ⟨rfl, rfl, rfl, rfl, rfl⟩ := mh375
                  subst me378
                  subst me380
                  subst me429
                  subst me443
                  exfalso; omega
                · have mh375 := zk_f mc440 mh375
                  have mc440n := (fun z => mc440 ((BR_E (n := 108) mk439 (by decide)).mpr z))
                  obtain ⟨mu_50, mh445, mh375⟩ := zk_o1 mh375
                  obtain mq446 := mb_wrongN hf mh445
                  replace mq446 := mq446.symm
                  subst mq446
                  simp only [Option.some.injEq, Prod.mk.injEq] at mh375
                  obtain ⟨rfl, rfl, rfl, rfl, rfl⟩ := mh375
                  replace k := zk_o3 k
                  obtain ⟨mr_54, mu_55, mu_56, mh447, k⟩ := k
                  obtain ⟨mq448, mq449, mq450⟩ := mb_takesP ((PB_s (tb := tb) hT ck10 (by omega))).1 mh447
                  replace mq448 := mq448.symm
                  subst mq448
                  replace mq449 := mq449.symm
                  subst mq449
                  replace mq450 := mq450.symm
                  subst mq450
                  replace k := zk_t (by decide) k
                  subst me378
                  subst me380
                  subst me429
                  replace k := Option.some.inj k
                  rw [← k]
                  first | (exfalso; omega) | exact Or.inl ⟨(ck10).1, rfl, ⟨by intro j hj; first | rfl | exact upd_n hj | exact (upd_n hj).trans (upd_n hj), by intro j hj; first | rfl | exact upd_n hj | exact (upd_n hj).trans (upd_n hj), by intro j hj; first | rfl | exact upd_n hj | exact (upd_n hj).trans (upd_n hj), by intro j hj; first | rfl | exact upd_n hj | exact (upd_n hj).trans (upd_n hj), by intro j hj; first | rfl | exact upd_n hj | exact (upd_n hj).trans (upd_n hj), by intro j hj; first | rfl | exact upd_n hj | exact (upd_n hj).trans (upd_n hj), by intro j hj; first | rfl | exact upd_n hj | exact (upd_n hj).trans (upd_n hj), by intro j hj; first | rfl | exact upd_n hj | exact (upd_n hj).trans (upd_n hj), fun _ _ => rfl, fun _ _ => rfl⟩⟩
            · replace mq425 := mq425.symm
              subst mq425
              try rw [z32L_9] at mk422
              have mh375 := zk_t (by decide) mh375
              obtain ⟨mu_40, mh451, mh375⟩ := zk_o1 mh375
              obtain mq452 := mb_wrongN hf mh451
              replace mq452 := mq452.symm
              subst mq452
              simp only [Option.some.injEq, Prod.mk.injEq] at mh375
              obtain ⟨rfl, rfl, rfl, rfl, rfl⟩ := mh375
              replace k := zk_o3 k
              obtain ⟨mr_54, mu_55, mu_56, mh453, k⟩ := k
              obtain ⟨mq454, mq455, mq456⟩ := mb_takesP (ck10).1 mh453
              replace mq454 := mq454.symm
              subst mq454
              replace mq455 := mq455.symm
              subst mq455
              replace mq456 := mq456.symm
              subst mq456
              replace k := zk_t (by decide) k
              subst me378
              subst me380
              replace k := Option.some.inj k
              rw [← k]
              first | (exfalso; omega) | exact Or.inl ⟨(ck10).1, rfl, ⟨by intro j hj; first | rfl | exact upd_n hj | exact (upd_n hj).trans (upd_n hj), by intro j hj; first | rfl | exact upd_n hj | exact (upd_n hj).trans (upd_n hj), by intro j hj; first | rfl | exact upd_n hj | exact (upd_n hj).trans (upd_n hj), by intro j hj; first | rfl | exact upd_n hj | exact (upd_n hj).trans (upd_n hj), by intro j hj; first | rfl | exact upd_n hj | exact (upd_n hj).trans (upd_n hj), by intro j hj; first | rfl | exact upd_n hj | exact (upd_n hj).trans (upd_n hj), by intro j hj; first | rfl | exact upd_n hj | exact (upd_n hj).trans (upd_n hj), by intro j hj; first | rfl | exact upd_n hj | exact (upd_n hj).trans (upd_n hj), fun _ _ => rfl, fun _ _ => rfl⟩⟩
        · exact (mk370 ck2).elim
    · replace cq13 := cq13.symm
      subst cq13
      replace cq14 := cq14.symm
      subst cq14
      replace h := zk_t (by decide) h
      replace h := zk_o2 h
      obtain ⟨cr_8, cu_9, ch68, h⟩ := h
      rcases cb_acceptN (n := 109) hT hf ck3 (by decide) ch68 with ⟨ck69, cq71, cq72, ck70⟩ | ⟨ck69, cq73, cq74⟩
      · replace cq71 := cq71.symm
        subst cq71
        replace cq72 := cq72.symm
        subst cq72
        have ck70a := ck70.1
        replace h := zk_f (by decide) h
        unfold B_X8_readEnding_106 at h
        replace h := zk_f (by decide) h
        unfold B_X8_readEnding_123 at h
        replace h := zk_o2 h
        obtain ⟨cr_33, cu_34, ch75, h⟩ := h
        rcases cb_acceptN (n := 119) hT hf ck70 (by decide) ch75 with ⟨ck76, cq78, cq79, ck77⟩ | ⟨ck76, cq80, cq81⟩
        · replace cq78 := cq78.symm
          subst cq78
          replace cq79 := cq79.symm
          subst cq79
          have ck77a := ck77.1
          replace h := zk_f (by decide) h
          unfold B_X8_readEnding_138 at h
          replace h := zk_f (by decide) h
          simp only [Option.some.injEq, Prod.mk.injEq] at h
          obtain ⟨rfl, rfl, rfl, rfl, rfl, rfl⟩ := h
          replace k := zk_o3 k
          obtain ⟨mr_43, mu_44, mu_45, mh457, k⟩ := k
          rcases mb_takesN (n := 61) hT hR hf hp (by decide) mh457 with ⟨mk458, mq460, mq461, mq462, mk459⟩ | ⟨mk458, _, _, _⟩
          · replace mq460 := mq460.symm
            subst mq460
            replace mq461 := mq461.symm
            subst mq461
            replace mq462 := mq462.symm
            subst mq462
            have mk459a := mk459.1
            replace k := zk_f (by decide) k
            replace k := zk_o5 k
            obtain ⟨mu_48, mu_49, mu_50, mu_51, mu_52, mh463, k⟩ := k
            unfold f_X12_readEnding at mh463
            unfold B_X12_readEnding_0 at mh463
            obtain ⟨mr_1, mu_2, mh464, mh463⟩ := zk_o2 mh463
            obtain mk465 := mb_look hT hR mk459 mh464
            have mh463 := zk_t ((BR_E (n := 109) mk465 (by decide)).mpr (by omega)) mh463
            unfold B_X12_readEnding_40 at mh463
            have mh463 := zk_t ((BR_E (n := 109) mk465 (by decide)).mpr (by omega)) mh463
            unfold B_X12_readEnding_87 at mh463
            rw [hq] at mh463
            obtain ⟨_, mh463⟩ := zk_gd mh463
            obtain ⟨mf_16, me466, mh463⟩ := zk_lt mh463
            obtain ⟨_, mh463⟩ := zk_gd mh463
            obtain ⟨mv_18, me467, mh463⟩ := zk_lt mh463
            replace me467 := me467.symm
            subst me467
            obtain ⟨_, mh463⟩ := zk_gd mh463
            obtain ⟨mf_20, me468, mh463⟩ := zk_lt mh463
            obtain ⟨mv_21, me469, mh463⟩ := zk_lt mh463
            subst me469
            have mh463 := zk_f (fun z => absurd ((BR_E (n := 112) mk465 (by decide)).mp z) (by omega)) mh463
            unfold B_X12_readEnding_180 at mh463
            obtain ⟨mr_42, mu_43, mh470, mh463⟩ := zk_o2 mh463
            obtain mk471 := mb_look hT hR ck70 mh470
            have mh463 := zk_t ((BR_E (n := 119) mk471 (by decide)).mpr (by omega)) mh463
            unfold B_X12_readEnding_203 at mh463
            obtain ⟨mr_52, mu_53, mh472, mh463⟩ := zk_o2 mh463
            obtain mk473 := mb_look hT hR ck70 mh472
            have mh463 := zk_t ((BR_E (n := 119) mk473 (by decide)).mpr (by omega)) mh463
            unfold B_X12_readEnding_222 at mh463
            obtain ⟨_, mh463⟩ := zk_gd mh463
            obtain ⟨mf_57, me474, mh463⟩ := zk_lt mh463
            obtain ⟨mv_58, me475, mh463⟩ := zk_lt mh463
            subst me475
            simp only [Option.some.injEq, Prod.mk.injEq] at mh463
            obtain ⟨rfl, rfl, rfl, rfl, rfl⟩ := mh463
            subst me466
            subst me468
            subst me474
            first | (exfalso; omega) | (refine Or.inr ⟨rfl, ck77, by first | decide | omega, by first | decide | omega, _, by first | exact ⟨fun z => absurd z (by decide), fun _ => rfl⟩ | exact ⟨fun _ => by rw [(nm_digit (ts := ts) (tb := tb) (a := ((at_ + 1) + (1 : Int32))) (by omega)).1, BR_v mk471 (by have hbz : bZ ts tb ((at_ + 1) + (1 : Int32)) = (bz ts tb ((at_ + 1) + (1 : Int32))).toInt := rfl; omega)], fun z => absurd rfl z⟩ | exact ⟨fun _ => by rw [(nm_digit (ts := ts) (tb := tb) (a := ((at_ + 1) + (1 : Int32))) (by omega)).1, BR_v mk473 (by have hbz : bZ ts tb ((at_ + 1) + (1 : Int32)) = (bz ts tb ((at_ + 1) + (1 : Int32))).toInt := rfl; omega)], fun z => absurd rfl z⟩, k⟩)
          · exact (mk458 ck2).elim
        · replace cq80 := cq80.symm
          subst cq80
          replace cq81 := cq81.symm
          subst cq81
          replace h := zk_t (by decide) h
          unfold B_X8_readEnding_138 at h
          replace h := zk_t (by decide) h
          replace h := zk_o2 h
          obtain ⟨cu_38, cu_39, ch82, h⟩ := h
          rcases cb_expectN (n := 108) hT hf ck70 (by decide) ch82 with ⟨ck83, cq85, cq86, ck84⟩ | ⟨ck83, cq87, cq88⟩
          · replace cq85 := cq85.symm
            subst cq85
            replace cq86 := cq86.symm
            subst cq86
            have ck84a := ck84.1
            simp only [Option.some.injEq, Prod.mk.injEq] at h
            obtain ⟨rfl, rfl, rfl, rfl, rfl, rfl⟩ := h
            replace k := zk_o3 k
            obtain ⟨mr_43, mu_44, mu_45, mh476, k⟩ := k
            rcases mb_takesN (n := 61) hT hR hf hp (by decide) mh476 with ⟨mk477, mq479, mq480, mq481, mk478⟩ | ⟨mk477, _, _, _⟩
            · replace mq479 := mq479.symm
              subst mq479
              replace mq480 := mq480.symm
              subst mq480
              replace mq481 := mq481.symm
              subst mq481
              have mk478a := mk478.1
              replace k := zk_f (by decide) k
              replace k := zk_o5 k
              obtain ⟨mu_48, mu_49, mu_50, mu_51, mu_52, mh482, k⟩ := k
              unfold f_X12_readEnding at mh482
              unfold B_X12_readEnding_0 at mh482
              obtain ⟨mr_1, mu_2, mh483, mh482⟩ := zk_o2 mh482
              obtain mk484 := mb_look hT hR mk478 mh483
              have mh482 := zk_t ((BR_E (n := 109) mk484 (by decide)).mpr (by omega)) mh482
              unfold B_X12_readEnding_40 at mh482
              have mh482 := zk_t ((BR_E (n := 109) mk484 (by decide)).mpr (by omega)) mh482
              unfold B_X12_readEnding_87 at mh482
              rw [hq] at mh482
              obtain ⟨_, mh482⟩ := zk_gd mh482
              obtain ⟨mf_16, me485, mh482⟩ := zk_lt mh482
              obtain ⟨_, mh482⟩ := zk_gd mh482
              obtain ⟨mv_18, me486, mh482⟩ := zk_lt mh482
              replace me486 := me486.symm
              subst me486
              obtain ⟨_, mh482⟩ := zk_gd mh482
              obtain ⟨mf_20, me487, mh482⟩ := zk_lt mh482
              obtain ⟨mv_21, me488, mh482⟩ := zk_lt mh482
              subst me488
              have mh482 := zk_f (fun z => absurd ((BR_E (n := 112) mk484 (by decide)).mp z) (by omega)) mh482
              unfold B_X12_readEnding_180 at mh482
              obtain ⟨mr_42, mu_43, mh489, mh482⟩ := zk_o2 mh482
              obtain mk490 := mb_look hT hR ck70 mh489
              have mh482 := zk_f (fun z => absurd ((BR_E (n := 119) mk490 (by decide)).mp z) (by omega)) mh482
              obtain ⟨mr_46, mu_47, mh491, mh482⟩ := zk_o2 mh482
              obtain mk492 := mb_look hT hR ck70 mh491
              have mh482 := zk_t ((BR_E (n := 108) mk492 (by decide)).mpr (by omega)) mh482
              unfold B_X12_readEnding_203 at mh482
              obtain ⟨mr_52, mu_53, mh493, mh482⟩ := zk_o2 mh482
              obtain mk494 := mb_look hT hR ck70 mh493
              have mh482 := zk_f (fun z => absurd ((BR_E (n := 119) mk494 (by decide)).mp z) (by omega)) mh482
              unfold B_X12_readEnding_222 at mh482
              obtain ⟨_, mh482⟩ := zk_gd mh482
              obtain ⟨mf_57, me495, mh482⟩ := zk_lt mh482
              obtain ⟨mv_58, me496, mh482⟩ := zk_lt mh482
              subst me496
              simp only [Option.some.injEq, Prod.mk.injEq] at mh482
              obtain ⟨rfl, rfl, rfl, rfl, rfl⟩ := mh482
              subst me485
              subst me487
              subst me495
              first | (exfalso; omega) | (refine Or.inr ⟨rfl, ck84, by first | decide | omega, by first | decide | omega, _, by first | exact ⟨fun z => absurd z (by decide), fun _ => rfl⟩ | exact ⟨fun _ => by rw [(nm_digit (ts := ts) (tb := tb) (a := ((at_ + 1) + (1 : Int32))) (by omega)).1, BR_v mk490 (by have hbz : bZ ts tb ((at_ + 1) + (1 : Int32)) = (bz ts tb ((at_ + 1) + (1 : Int32))).toInt := rfl; omega)], fun z => absurd rfl z⟩ | exact ⟨fun _ => by rw [(nm_digit (ts := ts) (tb := tb) (a := ((at_ + 1) + (1 : Int32))) (by omega)).1, BR_v mk492 (by have hbz : bZ ts tb ((at_ + 1) + (1 : Int32)) = (bz ts tb ((at_ + 1) + (1 : Int32))).toInt := rfl; omega)], fun z => absurd rfl z⟩ | exact ⟨fun _ => by rw [(nm_digit (ts := ts) (tb := tb) (a := ((at_ + 1) + (1 : Int32))) (by omega)).1, BR_v mk494 (by have hbz : bZ ts tb ((at_ + 1) + (1 : Int32)) = (bz ts tb ((at_ + 1) + (1 : Int32))).toInt := rfl; omega)], fun z => absurd rfl z⟩, k⟩)
            · exact (mk477 ck2).elim
          · replace cq87 := cq87.symm
            subst cq87
            replace cq88 := cq88.symm
            subst cq88
            simp only [Option.some.injEq, Prod.mk.injEq] at h
            obtain ⟨rfl, rfl, rfl, rfl, rfl, rfl⟩ := h
            replace k := zk_o3 k
            obtain ⟨mr_43, mu_44, mu_45, mh497, k⟩ := k
            rcases mb_takesN (n := 61) hT hR hf hp (by decide) mh497 with ⟨mk498, mq500, mq501, mq502, mk499⟩ | ⟨mk498, _, _, _⟩
            · replace mq500 := mq500.symm
              subst mq500
              replace mq501 := mq501.symm
              subst mq501
              replace mq502 := mq502.symm
              subst mq502
              have mk499a := mk499.1
              replace k := zk_f (by decide) k
              replace k := zk_o5 k
              obtain ⟨mu_48, mu_49, mu_50, mu_51, mu_52, mh503, k⟩ := k
              unfold f_X12_readEnding at mh503
              unfold B_X12_readEnding_0 at mh503
              obtain ⟨mr_1, mu_2, mh504, mh503⟩ := zk_o2 mh503
              obtain mk505 := mb_look hT hR mk499 mh504
              have mh503 := zk_t ((BR_E (n := 109) mk505 (by decide)).mpr (by omega)) mh503
              unfold B_X12_readEnding_40 at mh503
              have mh503 := zk_t ((BR_E (n := 109) mk505 (by decide)).mpr (by omega)) mh503
              unfold B_X12_readEnding_87 at mh503
              rw [hq] at mh503
              obtain ⟨_, mh503⟩ := zk_gd mh503
              obtain ⟨mf_16, me506, mh503⟩ := zk_lt mh503
              obtain ⟨_, mh503⟩ := zk_gd mh503
              obtain ⟨mv_18, me507, mh503⟩ := zk_lt mh503
              replace me507 := me507.symm
              subst me507
              obtain ⟨_, mh503⟩ := zk_gd mh503
              obtain ⟨mf_20, me508, mh503⟩ := zk_lt mh503
              obtain ⟨mv_21, me509, mh503⟩ := zk_lt mh503
              subst me509
              have mh503 := zk_f (fun z => absurd ((BR_E (n := 112) mk505 (by decide)).mp z) (by omega)) mh503
              unfold B_X12_readEnding_180 at mh503
              obtain ⟨mr_42, mu_43, mh510, mh503⟩ := zk_o2 mh503
              obtain mk511 := mb_look hT hR ck70 mh510
              have mh503 := zk_f (fun z => absurd ((BR_E (n := 119) mk511 (by decide)).mp z) (by omega)) mh503
              obtain ⟨mr_46, mu_47, mh512, mh503⟩ := zk_o2 mh503
              obtain mk513 := mb_look hT hR ck70 mh512
              have mh503 := zk_f (fun z => absurd ((BR_E (n := 108) mk513 (by decide)).mp z) (by omega)) mh503
              obtain ⟨mu_50, mh514, mh503⟩ := zk_o1 mh503
              obtain mq515 := mb_wrongN hf mh514
              replace mq515 := mq515.symm
              subst mq515
              simp only [Option.some.injEq, Prod.mk.injEq] at mh503
              obtain ⟨rfl, rfl, rfl, rfl, rfl⟩ := mh503
              replace k := zk_o3 k
              obtain ⟨mr_54, mu_55, mu_56, mh516, k⟩ := k
              obtain ⟨mq517, mq518, mq519⟩ := mb_takesP (ck70).1 mh516
              replace mq517 := mq517.symm
              subst mq517
              replace mq518 := mq518.symm
              subst mq518
              replace mq519 := mq519.symm
              subst mq519
              replace k := zk_t (by decide) k
              subst me506
              subst me508
              replace k := Option.some.inj k
              rw [← k]
              first | (exfalso; omega) | exact Or.inl ⟨(ck70).1, rfl, ⟨by intro j hj; first | rfl | exact upd_n hj | exact (upd_n hj).trans (upd_n hj), by intro j hj; first | rfl | exact upd_n hj | exact (upd_n hj).trans (upd_n hj), by intro j hj; first | rfl | exact upd_n hj | exact (upd_n hj).trans (upd_n hj), by intro j hj; first | rfl | exact upd_n hj | exact (upd_n hj).trans (upd_n hj), by intro j hj; first | rfl | exact upd_n hj | exact (upd_n hj).trans (upd_n hj), by intro j hj; first | rfl | exact upd_n hj | exact (upd_n hj).trans (upd_n hj), by intro j hj; first | rfl | exact upd_n hj | exact (upd_n hj).trans (upd_n hj), by intro j hj; first | rfl | exact upd_n hj | exact (upd_n hj).trans (upd_n hj), fun _ _ => rfl, fun _ _ => rfl⟩⟩
            · exact (mk498 ck2).elim
      · replace cq73 := cq73.symm
        subst cq73
        replace cq74 := cq74.symm
        subst cq74
        replace h := zk_t (by decide) h
        replace h := zk_o2 h
        obtain ⟨cr_12, cu_13, ch89, h⟩ := h
        rcases cb_acceptN (n := 102) hT hf ck3 (by decide) ch89 with ⟨ck90, cq92, cq93, ck91⟩ | ⟨ck90, cq94, cq95⟩
        · replace cq92 := cq92.symm
          subst cq92
          replace cq93 := cq93.symm
          subst cq93
          have ck91a := ck91.1
          replace h := zk_f (by decide) h
          unfold B_X8_readEnding_106 at h
          replace h := zk_f (by decide) h
          unfold B_X8_readEnding_123 at h
          replace h := zk_o2 h
          obtain ⟨cr_33, cu_34, ch96, h⟩ := h
          rcases cb_acceptN (n := 119) hT hf ck91 (by decide) ch96 with ⟨ck97, cq99, cq100, ck98⟩ | ⟨ck97, cq101, cq102⟩
          · replace cq99 := cq99.symm
            subst cq99
            replace cq100 := cq100.symm
            subst cq100
            have ck98a := ck98.1
            replace h := zk_f (by decide) h
            unfold B_X8_readEnding_138 at h
            replace h := zk_f (by decide) h
            simp only [Option.some.injEq, Prod.mk.injEq] at h
            obtain ⟨rfl, rfl, rfl, rfl, rfl, rfl⟩ := h
            replace k := zk_o3 k
            obtain ⟨mr_43, mu_44, mu_45, mh520, k⟩ := k
            rcases mb_takesN (n := 61) hT hR hf hp (by decide) mh520 with ⟨mk521, mq523, mq524, mq525, mk522⟩ | ⟨mk521, _, _, _⟩
            · replace mq523 := mq523.symm
              subst mq523
              replace mq524 := mq524.symm
              subst mq524
              replace mq525 := mq525.symm
              subst mq525
              have mk522a := mk522.1
              replace k := zk_f (by decide) k
              replace k := zk_o5 k
              obtain ⟨mu_48, mu_49, mu_50, mu_51, mu_52, mh526, k⟩ := k
              unfold f_X12_readEnding at mh526
              unfold B_X12_readEnding_0 at mh526
              obtain ⟨mr_1, mu_2, mh527, mh526⟩ := zk_o2 mh526
              obtain mk528 := mb_look hT hR mk522 mh527
              have mh526 := zk_f (fun z => absurd ((BR_E (n := 109) mk528 (by decide)).mp z) (by omega)) mh526
              have mh526 := zk_t ((BR_E (n := 102) mk528 (by decide)).mpr (by omega)) mh526
              unfold B_X12_readEnding_40 at mh526
              have mh526 := zk_f (fun z => absurd ((BR_E (n := 109) mk528 (by decide)).mp z) (by omega)) mh526
              have mh526 := zk_t ((BR_E (n := 102) mk528 (by decide)).mpr (by omega)) mh526
              unfold B_X12_readEnding_87 at mh526
              rw [hq] at mh526
              obtain ⟨_, mh526⟩ := zk_gd mh526
              obtain ⟨mf_16, me529, mh526⟩ := zk_lt mh526
              obtain ⟨_, mh526⟩ := zk_gd mh526
              obtain ⟨mv_18, me530, mh526⟩ := zk_lt mh526
              replace me530 := me530.symm
              subst me530
              obtain ⟨_, mh526⟩ := zk_gd mh526
              obtain ⟨mf_20, me531, mh526⟩ := zk_lt mh526
              obtain ⟨mv_21, me532, mh526⟩ := zk_lt mh526
              subst me532
              have mh526 := zk_f (fun z => absurd ((BR_E (n := 112) mk528 (by decide)).mp z) (by omega)) mh526
              unfold B_X12_readEnding_180 at mh526
              obtain ⟨mr_42, mu_43, mh533, mh526⟩ := zk_o2 mh526
              obtain mk534 := mb_look hT hR ck91 mh533
              have mh526 := zk_t ((BR_E (n := 119) mk534 (by decide)).mpr (by omega)) mh526
              unfold B_X12_readEnding_203 at mh526
              obtain ⟨mr_52, mu_53, mh535, mh526⟩ := zk_o2 mh526
              obtain mk536 := mb_look hT hR ck91 mh535
              have mh526 := zk_t ((BR_E (n := 119) mk536 (by decide)).mpr (by omega)) mh526
              unfold B_X12_readEnding_222 at mh526
              obtain ⟨_, mh526⟩ := zk_gd mh526
              obtain ⟨mf_57, me537, mh526⟩ := zk_lt mh526
              obtain ⟨mv_58, me538, mh526⟩ := zk_lt mh526
              subst me538
              simp only [Option.some.injEq, Prod.mk.injEq] at mh526
              obtain ⟨rfl, rfl, rfl, rfl, rfl⟩ := mh526
              subst me529
              subst me531
              subst me537
              first | (exfalso; omega) | (refine Or.inr ⟨rfl, ck98, by first | decide | omega, by first | decide | omega, _, by first | exact ⟨fun z => absurd z (by decide), fun _ => rfl⟩ | exact ⟨fun _ => by rw [(nm_digit (ts := ts) (tb := tb) (a := ((at_ + 1) + (1 : Int32))) (by omega)).1, BR_v mk534 (by have hbz : bZ ts tb ((at_ + 1) + (1 : Int32)) = (bz ts tb ((at_ + 1) + (1 : Int32))).toInt := rfl; omega)], fun z => absurd rfl z⟩ | exact ⟨fun _ => by rw [(nm_digit (ts := ts) (tb := tb) (a := ((at_ + 1) + (1 : Int32))) (by omega)).1, BR_v mk536 (by have hbz : bZ ts tb ((at_ + 1) + (1 : Int32)) = (bz ts tb ((at_ + 1) + (1 : Int32))).toInt := rfl; omega)], fun z => absurd rfl z⟩, k⟩)
            · exact (mk521 ck2).elim
          · replace cq101 := cq101.symm
            subst cq101
            replace cq102 := cq102.symm
            subst cq102
            replace h := zk_t (by decide) h
            unfold B_X8_readEnding_138 at h
            replace h := zk_t (by decide) h
            replace h := zk_o2 h
            obtain ⟨cu_38, cu_39, ch103, h⟩ := h
            rcases cb_expectN (n := 108) hT hf ck91 (by decide) ch103 with ⟨ck104, cq106, cq107, ck105⟩ | ⟨ck104, cq108, cq109⟩
            · replace cq106 := cq106.symm
              subst cq106
              replace cq107 := cq107.symm
              subst cq107
              have ck105a := ck105.1
              simp only [Option.some.injEq, Prod.mk.injEq] at h
              obtain ⟨rfl, rfl, rfl, rfl, rfl, rfl⟩ := h
              replace k := zk_o3 k
              obtain ⟨mr_43, mu_44, mu_45, mh539, k⟩ := k
              rcases mb_takesN (n := 61) hT hR hf hp (by decide) mh539 with ⟨mk540, mq542, mq543, mq544, mk541⟩ | ⟨mk540, _, _, _⟩
              · replace mq542 := mq542.symm
                subst mq542
                replace mq543 := mq543.symm
                subst mq543
                replace mq544 := mq544.symm
                subst mq544
                have mk541a := mk541.1
                replace k := zk_f (by decide) k
                replace k := zk_o5 k
                obtain ⟨mu_48, mu_49, mu_50, mu_51, mu_52, mh545, k⟩ := k
                unfold f_X12_readEnding at mh545
                unfold B_X12_readEnding_0 at mh545
                obtain ⟨mr_1, mu_2, mh546, mh545⟩ := zk_o2 mh545
                obtain mk547 := mb_look hT hR mk541 mh546
                have mh545 := zk_f (fun z => absurd ((BR_E (n := 109) mk547 (by decide)).mp z) (by omega)) mh545
                have mh545 := zk_t ((BR_E (n := 102) mk547 (by decide)).mpr (by omega)) mh545
                unfold B_X12_readEnding_40 at mh545
                have mh545 := zk_f (fun z => absurd ((BR_E (n := 109) mk547 (by decide)).mp z) (by omega)) mh545
                have mh545 := zk_t ((BR_E (n := 102) mk547 (by decide)).mpr (by omega)) mh545
                unfold B_X12_readEnding_87 at mh545
                rw [hq] at mh545
                obtain ⟨_, mh545⟩ := zk_gd mh545
                obtain ⟨mf_16, me548, mh545⟩ := zk_lt mh545
                obtain ⟨_, mh545⟩ := zk_gd mh545
                obtain ⟨mv_18, me549, mh545⟩ := zk_lt mh545
                replace me549 := me549.symm
                subst me549
                obtain ⟨_, mh545⟩ := zk_gd mh545
                obtain ⟨mf_20, me550, mh545⟩ := zk_lt mh545
                obtain ⟨mv_21, me551, mh545⟩ := zk_lt mh545
                subst me551
                have mh545 := zk_f (fun z => absurd ((BR_E (n := 112) mk547 (by decide)).mp z) (by omega)) mh545
                unfold B_X12_readEnding_180 at mh545
                obtain ⟨mr_42, mu_43, mh552, mh545⟩ := zk_o2 mh545
                obtain mk553 := mb_look hT hR ck91 mh552
                have mh545 := zk_f (fun z => absurd ((BR_E (n := 119) mk553 (by decide)).mp z) (by omega)) mh545
                obtain ⟨mr_46, mu_47, mh554, mh545⟩ := zk_o2 mh545
                obtain mk555 := mb_look hT hR ck91 mh554
                have mh545 := zk_t ((BR_E (n := 108) mk555 (by decide)).mpr (by omega)) mh545
                unfold B_X12_readEnding_203 at mh545
                obtain ⟨mr_52, mu_53, mh556, mh545⟩ := zk_o2 mh545
                obtain mk557 := mb_look hT hR ck91 mh556
                have mh545 := zk_f (fun z => absurd ((BR_E (n := 119) mk557 (by decide)).mp z) (by omega)) mh545
                unfold B_X12_readEnding_222 at mh545
                obtain ⟨_, mh545⟩ := zk_gd mh545
                obtain ⟨mf_57, me558, mh545⟩ := zk_lt mh545
                obtain ⟨mv_58, me559, mh545⟩ := zk_lt mh545
                subst me559
                simp only [Option.some.injEq, Prod.mk.injEq] at mh545
                obtain ⟨rfl, rfl, rfl, rfl, rfl⟩ := mh545
                subst me548
                subst me550
                subst me558
                first | (exfalso; omega) | (refine Or.inr ⟨rfl, ck105, by first | decide | omega, by first | decide | omega, _, by first | exact ⟨fun z => absurd z (by decide), fun _ => rfl⟩ | exact ⟨fun _ => by rw [(nm_digit (ts := ts) (tb := tb) (a := ((at_ + 1) + (1 : Int32))) (by omega)).1, BR_v mk553 (by have hbz : bZ ts tb ((at_ + 1) + (1 : Int32)) = (bz ts tb ((at_ + 1) + (1 : Int32))).toInt := rfl; omega)], fun z => absurd rfl z⟩ | exact ⟨fun _ => by rw [(nm_digit (ts := ts) (tb := tb) (a := ((at_ + 1) + (1 : Int32))) (by omega)).1, BR_v mk555 (by have hbz : bZ ts tb ((at_ + 1) + (1 : Int32)) = (bz ts tb ((at_ + 1) + (1 : Int32))).toInt := rfl; omega)], fun z => absurd rfl z⟩ | exact ⟨fun _ => by rw [(nm_digit (ts := ts) (tb := tb) (a := ((at_ + 1) + (1 : Int32))) (by omega)).1, BR_v mk557 (by have hbz : bZ ts tb ((at_ + 1) + (1 : Int32)) = (bz ts tb ((at_ + 1) + (1 : Int32))).toInt := rfl; omega)], fun z => absurd rfl z⟩, k⟩)
              · exact (mk540 ck2).elim
            · replace cq108 := cq108.symm
              subst cq108
              replace cq109 := cq109.symm
              subst cq109
              simp only [Option.some.injEq, Prod.mk.injEq] at h
              obtain ⟨rfl, rfl, rfl, rfl, rfl, rfl⟩ := h
              replace k := zk_o3 k
              obtain ⟨mr_43, mu_44, mu_45, mh560, k⟩ := k
              rcases mb_takesN (n := 61) hT hR hf hp (by decide) mh560 with ⟨mk561, mq563, mq564, mq565, mk562⟩ | ⟨mk561, _, _, _⟩
              · replace mq563 := mq563.symm
                subst mq563
                replace mq564 := mq564.symm
                subst mq564
                replace mq565 := mq565.symm
                subst mq565
                have mk562a := mk562.1
                replace k := zk_f (by decide) k
                replace k := zk_o5 k
                obtain ⟨mu_48, mu_49, mu_50, mu_51, mu_52, mh566, k⟩ := k
                unfold f_X12_readEnding at mh566
                unfold B_X12_readEnding_0 at mh566
                obtain ⟨mr_1, mu_2, mh567, mh566⟩ := zk_o2 mh566
                obtain mk568 := mb_look hT hR mk562 mh567
                have mh566 := zk_f (fun z => absurd ((BR_E (n := 109) mk568 (by decide)).mp z) (by omega)) mh566
                have mh566 := zk_t ((BR_E (n := 102) mk568 (by decide)).mpr (by omega)) mh566
                unfold B_X12_readEnding_40 at mh566
                have mh566 := zk_f (fun z => absurd ((BR_E (n := 109) mk568 (by decide)).mp z) (by omega)) mh566
                have mh566 := zk_t ((BR_E (n := 102) mk568 (by decide)).mpr (by omega)) mh566
                unfold B_X12_readEnding_87 at mh566
                rw [hq] at mh566
                obtain ⟨_, mh566⟩ := zk_gd mh566
                obtain ⟨mf_16, me569, mh566⟩ := zk_lt mh566
                obtain ⟨_, mh566⟩ := zk_gd mh566
                obtain ⟨mv_18, me570, mh566⟩ := zk_lt mh566
                replace me570 := me570.symm
                subst me570
                obtain ⟨_, mh566⟩ := zk_gd mh566
                obtain ⟨mf_20, me571, mh566⟩ := zk_lt mh566
                obtain ⟨mv_21, me572, mh566⟩ := zk_lt mh566
                subst me572
                have mh566 := zk_f (fun z => absurd ((BR_E (n := 112) mk568 (by decide)).mp z) (by omega)) mh566
                unfold B_X12_readEnding_180 at mh566
                obtain ⟨mr_42, mu_43, mh573, mh566⟩ := zk_o2 mh566
                obtain mk574 := mb_look hT hR ck91 mh573
                have mh566 := zk_f (fun z => absurd ((BR_E (n := 119) mk574 (by decide)).mp z) (by omega)) mh566
                obtain ⟨mr_46, mu_47, mh575, mh566⟩ := zk_o2 mh566
                obtain mk576 := mb_look hT hR ck91 mh575
                have mh566 := zk_f (fun z => absurd ((BR_E (n := 108) mk576 (by decide)).mp z) (by omega)) mh566
                obtain ⟨mu_50, mh577, mh566⟩ := zk_o1 mh566
                obtain mq578 := mb_wrongN hf mh577
                replace mq578 := mq578.symm
                subst mq578
                simp only [Option.some.injEq, Prod.mk.injEq] at mh566
                obtain ⟨rfl, rfl, rfl, rfl, rfl⟩ := mh566
                replace k := zk_o3 k
                obtain ⟨mr_54, mu_55, mu_56, mh579, k⟩ := k
                obtain ⟨mq580, mq581, mq582⟩ := mb_takesP (ck91).1 mh579
                replace mq580 := mq580.symm
                subst mq580
                replace mq581 := mq581.symm
                subst mq581
                replace mq582 := mq582.symm
                subst mq582
                replace k := zk_t (by decide) k
                subst me569
                subst me571
                replace k := Option.some.inj k
                rw [← k]
                first | (exfalso; omega) | exact Or.inl ⟨(ck91).1, rfl, ⟨by intro j hj; first | rfl | exact upd_n hj | exact (upd_n hj).trans (upd_n hj), by intro j hj; first | rfl | exact upd_n hj | exact (upd_n hj).trans (upd_n hj), by intro j hj; first | rfl | exact upd_n hj | exact (upd_n hj).trans (upd_n hj), by intro j hj; first | rfl | exact upd_n hj | exact (upd_n hj).trans (upd_n hj), by intro j hj; first | rfl | exact upd_n hj | exact (upd_n hj).trans (upd_n hj), by intro j hj; first | rfl | exact upd_n hj | exact (upd_n hj).trans (upd_n hj), by intro j hj; first | rfl | exact upd_n hj | exact (upd_n hj).trans (upd_n hj), by intro j hj; first | rfl | exact upd_n hj | exact (upd_n hj).trans (upd_n hj), fun _ _ => rfl, fun _ _ => rfl⟩⟩
              · exact (mk561 ck2).elim
        · replace cq94 := cq94.symm
          subst cq94
          replace cq95 := cq95.symm
          subst cq95
          replace h := zk_t (by decide) h
          replace h := zk_o2 h
          obtain ⟨cr_16, cu_17, ch110, h⟩ := h
          rcases cb_acceptN (n := 97) hT hf ck3 (by decide) ch110 with ⟨ck111, cq113, cq114, ck112⟩ | ⟨ck111, cq115, cq116⟩
          · replace cq113 := cq113.symm
            subst cq113
            replace cq114 := cq114.symm
            subst cq114
            have ck112a := ck112.1
            replace h := zk_f (by decide) h
            unfold B_X8_readEnding_106 at h
            replace h := zk_f (by decide) h
            unfold B_X8_readEnding_123 at h
            replace h := zk_o2 h
            obtain ⟨cr_33, cu_34, ch117, h⟩ := h
            rcases cb_acceptN (n := 119) hT hf ck112 (by decide) ch117 with ⟨ck118, cq120, cq121, ck119⟩ | ⟨ck118, cq122, cq123⟩
            · replace cq120 := cq120.symm
              subst cq120
              replace cq121 := cq121.symm
              subst cq121
              have ck119a := ck119.1
              replace h := zk_f (by decide) h
              unfold B_X8_readEnding_138 at h
              replace h := zk_f (by decide) h
              simp only [Option.some.injEq, Prod.mk.injEq] at h
              obtain ⟨rfl, rfl, rfl, rfl, rfl, rfl⟩ := h
              replace k := zk_o3 k
              obtain ⟨mr_43, mu_44, mu_45, mh583, k⟩ := k
              rcases mb_takesN (n := 61) hT hR hf hp (by decide) mh583 with ⟨mk584, mq586, mq587, mq588, mk585⟩ | ⟨mk584, _, _, _⟩
              · replace mq586 := mq586.symm
                subst mq586
                replace mq587 := mq587.symm
                subst mq587
                replace mq588 := mq588.symm
                subst mq588
                have mk585a := mk585.1
                replace k := zk_f (by decide) k
                replace k := zk_o5 k
                obtain ⟨mu_48, mu_49, mu_50, mu_51, mu_52, mh589, k⟩ := k
                unfold f_X12_readEnding at mh589
                unfold B_X12_readEnding_0 at mh589
                obtain ⟨mr_1, mu_2, mh590, mh589⟩ := zk_o2 mh589
                obtain mk591 := mb_look hT hR mk585 mh590
                have mh589 := zk_f (fun z => absurd ((BR_E (n := 109) mk591 (by decide)).mp z) (by omega)) mh589
                have mh589 := zk_f (fun z => absurd ((BR_E (n := 102) mk591 (by decide)).mp z) (by omega)) mh589
                have mh589 := zk_t ((BR_E (n := 97) mk591 (by decide)).mpr (by omega)) mh589
                unfold B_X12_readEnding_40 at mh589
                have mh589 := zk_f (fun z => absurd ((BR_E (n := 109) mk591 (by decide)).mp z) (by omega)) mh589
                have mh589 := zk_f (fun z => absurd ((BR_E (n := 102) mk591 (by decide)).mp z) (by omega)) mh589
                have mh589 := zk_t ((BR_E (n := 97) mk591 (by decide)).mpr (by omega)) mh589
                unfold B_X12_readEnding_87 at mh589
                rw [hq] at mh589
                obtain ⟨_, mh589⟩ := zk_gd mh589
                obtain ⟨mf_16, me592, mh589⟩ := zk_lt mh589
                obtain ⟨_, mh589⟩ := zk_gd mh589
                obtain ⟨mv_18, me593, mh589⟩ := zk_lt mh589
                replace me593 := me593.symm
                subst me593
                obtain ⟨_, mh589⟩ := zk_gd mh589
                obtain ⟨mf_20, me594, mh589⟩ := zk_lt mh589
                obtain ⟨mv_21, me595, mh589⟩ := zk_lt mh589
                subst me595
                have mh589 := zk_f (fun z => absurd ((BR_E (n := 112) mk591 (by decide)).mp z) (by omega)) mh589
                unfold B_X12_readEnding_180 at mh589
                obtain ⟨mr_42, mu_43, mh596, mh589⟩ := zk_o2 mh589
                obtain mk597 := mb_look hT hR ck112 mh596
                have mh589 := zk_t ((BR_E (n := 119) mk597 (by decide)).mpr (by omega)) mh589
                unfold B_X12_readEnding_203 at mh589
                obtain ⟨mr_52, mu_53, mh598, mh589⟩ := zk_o2 mh589
                obtain mk599 := mb_look hT hR ck112 mh598
                have mh589 := zk_t ((BR_E (n := 119) mk599 (by decide)).mpr (by omega)) mh589
                unfold B_X12_readEnding_222 at mh589
                obtain ⟨_, mh589⟩ := zk_gd mh589
                obtain ⟨mf_57, me600, mh589⟩ := zk_lt mh589
                obtain ⟨mv_58, me601, mh589⟩ := zk_lt mh589
                subst me601
                simp only [Option.some.injEq, Prod.mk.injEq] at mh589
                obtain ⟨rfl, rfl, rfl, rfl, rfl⟩ := mh589
                subst me592
                subst me594
                subst me600
                first | (exfalso; omega) | (refine Or.inr ⟨rfl, ck119, by first | decide | omega, by first | decide | omega, _, by first | exact ⟨fun z => absurd z (by decide), fun _ => rfl⟩ | exact ⟨fun _ => by rw [(nm_digit (ts := ts) (tb := tb) (a := ((at_ + 1) + (1 : Int32))) (by omega)).1, BR_v mk597 (by have hbz : bZ ts tb ((at_ + 1) + (1 : Int32)) = (bz ts tb ((at_ + 1) + (1 : Int32))).toInt := rfl; omega)], fun z => absurd rfl z⟩ | exact ⟨fun _ => by rw [(nm_digit (ts := ts) (tb := tb) (a := ((at_ + 1) + (1 : Int32))) (by omega)).1, BR_v mk599 (by have hbz : bZ ts tb ((at_ + 1) + (1 : Int32)) = (bz ts tb ((at_ + 1) + (1 : Int32))).toInt := rfl; omega)], fun z => absurd rfl z⟩, k⟩)
              · exact (mk584 ck2).elim
            · replace cq122 := cq122.symm
              subst cq122
              replace cq123 := cq123.symm
              subst cq123
              replace h := zk_t (by decide) h
              unfold B_X8_readEnding_138 at h
              replace h := zk_t (by decide) h
              replace h := zk_o2 h
              obtain ⟨cu_38, cu_39, ch124, h⟩ := h
              rcases cb_expectN (n := 108) hT hf ck112 (by decide) ch124 with ⟨ck125, cq127, cq128, ck126⟩ | ⟨ck125, cq129, cq130⟩
              · replace cq127 := cq127.symm
                subst cq127
                replace cq128 := cq128.symm
                subst cq128
                have ck126a := ck126.1
                simp only [Option.some.injEq, Prod.mk.injEq] at h
                obtain ⟨rfl, rfl, rfl, rfl, rfl, rfl⟩ := h
                replace k := zk_o3 k
                obtain ⟨mr_43, mu_44, mu_45, mh602, k⟩ := k
                rcases mb_takesN (n := 61) hT hR hf hp (by decide) mh602 with ⟨mk603, mq605, mq606, mq607, mk604⟩ | ⟨mk603, _, _, _⟩
                · replace mq605 := mq605.symm
                  subst mq605
                  replace mq606 := mq606.symm
                  subst mq606
                  replace mq607 := mq607.symm
                  subst mq607
                  have mk604a := mk604.1
                  replace k := zk_f (by decide) k
                  replace k := zk_o5 k
                  obtain ⟨mu_48, mu_49, mu_50, mu_51, mu_52, mh608, k⟩ := k
                  unfold f_X12_readEnding at mh608
                  unfold B_X12_readEnding_0 at mh608
                  obtain ⟨mr_1, mu_2, mh609, mh608⟩ := zk_o2 mh608
                  obtain mk610 := mb_look hT hR mk604 mh609
                  have mh608 := zk_f (fun z => absurd ((BR_E (n := 109) mk610 (by decide)).mp z) (by omega)) mh608
                  have mh608 := zk_f (fun z => absurd ((BR_E (n := 102) mk610 (by decide)).mp z) (by omega)) mh608
                  have mh608 := zk_t ((BR_E (n := 97) mk610 (by decide)).mpr (by omega)) mh608
                  unfold B_X12_readEnding_40 at mh608
                  have mh608 := zk_f (fun z => absurd ((BR_E (n := 109) mk610 (by decide)).mp z) (by omega)) mh608
                  have mh608 := zk_f (fun z => absurd ((BR_E (n := 102) mk610 (by decide)).mp z) (by omega)) mh608
                  have mh608 := zk_t ((BR_E (n := 97) mk610 (by decide)).mpr (by omega)) mh608
                  unfold B_X12_readEnding_87 at mh608
                  rw [hq] at mh608
                  obtain ⟨_, mh608⟩ := zk_gd mh608
                  obtain ⟨mf_16, me611, mh608⟩ := zk_lt mh608
                  obtain ⟨_, mh608⟩ := zk_gd mh608
                  obtain ⟨mv_18, me612, mh608⟩ := zk_lt mh608
                  replace me612 := me612.symm
                  subst me612
                  obtain ⟨_, mh608⟩ := zk_gd mh608
                  obtain ⟨mf_20, me613, mh608⟩ := zk_lt mh608
                  obtain ⟨mv_21, me614, mh608⟩ := zk_lt mh608
                  subst me614
                  have mh608 := zk_f (fun z => absurd ((BR_E (n := 112) mk610 (by decide)).mp z) (by omega)) mh608
                  unfold B_X12_readEnding_180 at mh608
                  obtain ⟨mr_42, mu_43, mh615, mh608⟩ := zk_o2 mh608
                  obtain mk616 := mb_look hT hR ck112 mh615
                  have mh608 := zk_f (fun z => absurd ((BR_E (n := 119) mk616 (by decide)).mp z) (by omega)) mh608
                  obtain ⟨mr_46, mu_47, mh617, mh608⟩ := zk_o2 mh608
                  obtain mk618 := mb_look hT hR ck112 mh617
                  have mh608 := zk_t ((BR_E (n := 108) mk618 (by decide)).mpr (by omega)) mh608
                  unfold B_X12_readEnding_203 at mh608
                  obtain ⟨mr_52, mu_53, mh619, mh608⟩ := zk_o2 mh608
                  obtain mk620 := mb_look hT hR ck112 mh619
                  have mh608 := zk_f (fun z => absurd ((BR_E (n := 119) mk620 (by decide)).mp z) (by omega)) mh608
                  unfold B_X12_readEnding_222 at mh608
                  obtain ⟨_, mh608⟩ := zk_gd mh608
                  obtain ⟨mf_57, me621, mh608⟩ := zk_lt mh608
                  obtain ⟨mv_58, me622, mh608⟩ := zk_lt mh608
                  subst me622
                  simp only [Option.some.injEq, Prod.mk.injEq] at mh608
                  obtain ⟨rfl, rfl, rfl, rfl, rfl⟩ := mh608
                  subst me611
                  subst me613
                  subst me621
                  first | (exfalso; omega) | (refine Or.inr ⟨rfl, ck126, by first | decide | omega, by first | decide | omega, _, by first | exact ⟨fun z => absurd z (by decide), fun _ => rfl⟩ | exact ⟨fun _ => by rw [(nm_digit (ts := ts) (tb := tb) (a := ((at_ + 1) + (1 : Int32))) (by omega)).1, BR_v mk616 (by have hbz : bZ ts tb ((at_ + 1) + (1 : Int32)) = (bz ts tb ((at_ + 1) + (1 : Int32))).toInt := rfl; omega)], fun z => absurd rfl z⟩ | exact ⟨fun _ => by rw [(nm_digit (ts := ts) (tb := tb) (a := ((at_ + 1) + (1 : Int32))) (by omega)).1, BR_v mk618 (by have hbz : bZ ts tb ((at_ + 1) + (1 : Int32)) = (bz ts tb ((at_ + 1) + (1 : Int32))).toInt := rfl; omega)], fun z => absurd rfl z⟩ | exact ⟨fun _ => by rw [(nm_digit (ts := ts) (tb := tb) (a := ((at_ + 1) + (1 : Int32))) (by omega)).1, BR_v mk620 (by have hbz : bZ ts tb ((at_ + 1) + (1 : Int32)) = (bz ts tb ((at_ + 1) + (1 : Int32))).toInt := rfl; omega)], fun z => absurd rfl z⟩, k⟩)
                · exact (mk603 ck2).elim
              · replace cq129 := cq129.symm
                subst cq129
                replace cq130 := cq130.symm
                subst cq130
                simp only [Option.some.injEq, Prod.mk.injEq] at h
                obtain ⟨rfl, rfl, rfl, rfl, rfl, rfl⟩ := h
                replace k := zk_o3 k
                obtain ⟨mr_43, mu_44, mu_45, mh623, k⟩ := k
                rcases mb_takesN (n := 61) hT hR hf hp (by decide) mh623 with ⟨mk624, mq626, mq627, mq628, mk625⟩ | ⟨mk624, _, _, _⟩
                · replace mq626 := mq626.symm
                  subst mq626
                  replace mq627 := mq627.symm
                  subst mq627
                  replace mq628 := mq628.symm
                  subst mq628
                  have mk625a := mk625.1
                  replace k := zk_f (by decide) k
                  replace k := zk_o5 k
                  obtain ⟨mu_48, mu_49, mu_50, mu_51, mu_52, mh629, k⟩ := k
                  unfold f_X12_readEnding at mh629
                  unfold B_X12_readEnding_0 at mh629
                  obtain ⟨mr_1, mu_2, mh630, mh629⟩ := zk_o2 mh629
                  obtain mk631 := mb_look hT hR mk625 mh630
                  have mh629 := zk_f (fun z => absurd ((BR_E (n := 109) mk631 (by decide)).mp z) (by omega)) mh629
                  have mh629 := zk_f (fun z => absurd ((BR_E (n := 102) mk631 (by decide)).mp z) (by omega)) mh629
                  have mh629 := zk_t ((BR_E (n := 97) mk631 (by decide)).mpr (by omega)) mh629
                  unfold B_X12_readEnding_40 at mh629
                  have mh629 := zk_f (fun z => absurd ((BR_E (n := 109) mk631 (by decide)).mp z) (by omega)) mh629
                  have mh629 := zk_f (fun z => absurd ((BR_E (n := 102) mk631 (by decide)).mp z) (by omega)) mh629
                  have mh629 := zk_t ((BR_E (n := 97) mk631 (by decide)).mpr (by omega)) mh629
                  unfold B_X12_readEnding_87 at mh629
                  rw [hq] at mh629
                  obtain ⟨_, mh629⟩ := zk_gd mh629
                  obtain ⟨mf_16, me632, mh629⟩ := zk_lt mh629
                  obtain ⟨_, mh629⟩ := zk_gd mh629
                  obtain ⟨mv_18, me633, mh629⟩ := zk_lt mh629
                  replace me633 := me633.symm
                  subst me633
                  obtain ⟨_, mh629⟩ := zk_gd mh629
                  obtain ⟨mf_20, me634, mh629⟩ := zk_lt mh629
                  obtain ⟨mv_21, me635, mh629⟩ := zk_lt mh629
                  subst me635
                  have mh629 := zk_f (fun z => absurd ((BR_E (n := 112) mk631 (by decide)).mp z) (by omega)) mh629
                  unfold B_X12_readEnding_180 at mh629
                  obtain ⟨mr_42, mu_43, mh636, mh629⟩ := zk_o2 mh629
                  obtain mk637 := mb_look hT hR ck112 mh636
                  have mh629 := zk_f (fun z => absurd ((BR_E (n := 119) mk637 (by decide)).mp z) (by omega)) mh629
                  obtain ⟨mr_46, mu_47, mh638, mh629⟩ := zk_o2 mh629
                  obtain mk639 := mb_look hT hR ck112 mh638
                  have mh629 := zk_f (fun z => absurd ((BR_E (n := 108) mk639 (by decide)).mp z) (by omega)) mh629
                  obtain ⟨mu_50, mh640, mh629⟩ := zk_o1 mh629
                  obtain mq641 := mb_wrongN hf mh640
                  replace mq641 := mq641.symm
                  subst mq641
                  simp only [Option.some.injEq, Prod.mk.injEq] at mh629
                  obtain ⟨rfl, rfl, rfl, rfl, rfl⟩ := mh629
                  replace k := zk_o3 k
                  obtain ⟨mr_54, mu_55, mu_56, mh642, k⟩ := k
                  obtain ⟨mq643, mq644, mq645⟩ := mb_takesP (ck112).1 mh642
                  replace mq643 := mq643.symm
                  subst mq643
                  replace mq644 := mq644.symm
                  subst mq644
                  replace mq645 := mq645.symm
                  subst mq645
                  replace k := zk_t (by decide) k
                  subst me632
                  subst me634
                  replace k := Option.some.inj k
                  rw [← k]
                  first | (exfalso; omega) | exact Or.inl ⟨(ck112).1, rfl, ⟨by intro j hj; first | rfl | exact upd_n hj | exact (upd_n hj).trans (upd_n hj), by intro j hj; first | rfl | exact upd_n hj | exact (upd_n hj).trans (upd_n hj), by intro j hj; first | rfl | exact upd_n hj | exact (upd_n hj).trans (upd_n hj), by intro j hj; first | rfl | exact upd_n hj | exact (upd_n hj).trans (upd_n hj), by intro j hj; first | rfl | exact upd_n hj | exact (upd_n hj).trans (upd_n hj), by intro j hj; first | rfl | exact upd_n hj | exact (upd_n hj).trans (upd_n hj), by intro j hj; first | rfl | exact upd_n hj | exact (upd_n hj).trans (upd_n hj), by intro j hj; first | rfl | exact upd_n hj | exact (upd_n hj).trans (upd_n hj), fun _ _ => rfl, fun _ _ => rfl⟩⟩
                · exact (mk624 ck2).elim
          · replace cq115 := cq115.symm
            subst cq115
            replace cq116 := cq116.symm
            subst cq116
            replace h := zk_t (by decide) h
            unfold B_X8_readEnding_106 at h
            replace h := zk_t (by decide) h
            replace h := zk_o2 h
            obtain ⟨cu_30, cu_31, ch131, h⟩ := h
            rcases cb_expectN (n := 100) hT hf ck3 (by decide) ch131 with ⟨ck132, cq134, cq135, ck133⟩ | ⟨ck132, cq136, cq137⟩
            · replace cq134 := cq134.symm
              subst cq134
              replace cq135 := cq135.symm
              subst cq135
              have ck133a := ck133.1
              unfold B_X8_readEnding_123 at h
              replace h := zk_o2 h
              obtain ⟨cr_33, cu_34, ch138, h⟩ := h
              rcases cb_acceptN (n := 119) hT hf ck133 (by decide) ch138 with ⟨ck139, cq141, cq142, ck140⟩ | ⟨ck139, cq143, cq144⟩
              · replace cq141 := cq141.symm
                subst cq141
                replace cq142 := cq142.symm
                subst cq142
                have ck140a := ck140.1
                replace h := zk_f (by decide) h
                unfold B_X8_readEnding_138 at h
                replace h := zk_f (by decide) h
                simp only [Option.some.injEq, Prod.mk.injEq] at h
                obtain ⟨rfl, rfl, rfl, rfl, rfl, rfl⟩ := h
                replace k := zk_o3 k
                obtain ⟨mr_43, mu_44, mu_45, mh646, k⟩ := k
                rcases mb_takesN (n := 61) hT hR hf hp (by decide) mh646 with ⟨mk647, mq649, mq650, mq651, mk648⟩ | ⟨mk647, _, _, _⟩
                · replace mq649 := mq649.symm
                  subst mq649
                  replace mq650 := mq650.symm
                  subst mq650
                  replace mq651 := mq651.symm
                  subst mq651
                  have mk648a := mk648.1
                  replace k := zk_f (by decide) k
                  replace k := zk_o5 k
                  obtain ⟨mu_48, mu_49, mu_50, mu_51, mu_52, mh652, k⟩ := k
                  unfold f_X12_readEnding at mh652
                  unfold B_X12_readEnding_0 at mh652
                  obtain ⟨mr_1, mu_2, mh653, mh652⟩ := zk_o2 mh652
                  obtain mk654 := mb_look hT hR mk648 mh653
                  have mh652 := zk_f (fun z => absurd ((BR_E (n := 109) mk654 (by decide)).mp z) (by omega)) mh652
                  have mh652 := zk_f (fun z => absurd ((BR_E (n := 102) mk654 (by decide)).mp z) (by omega)) mh652
                  have mh652 := zk_f (fun z => absurd ((BR_E (n := 97) mk654 (by decide)).mp z) (by omega)) mh652
                  have mh652 := zk_t ((BR_E (n := 100) mk654 (by decide)).mpr (by omega)) mh652
                  unfold B_X12_readEnding_40 at mh652
                  have mh652 := zk_f (fun z => absurd ((BR_E (n := 109) mk654 (by decide)).mp z) (by omega)) mh652
                  have mh652 := zk_f (fun z => absurd ((BR_E (n := 102) mk654 (by decide)).mp z) (by omega)) mh652
                  have mh652 := zk_f (fun z => absurd ((BR_E (n := 97) mk654 (by decide)).mp z) (by omega)) mh652
                  have mh652 := zk_t ((BR_E (n := 100) mk654 (by decide)).mpr (by omega)) mh652
                  unfold B_X12_readEnding_87 at mh652
                  rw [hq] at mh652
                  obtain ⟨_, mh652⟩ := zk_gd mh652
                  obtain ⟨mf_16, me655, mh652⟩ := zk_lt mh652
                  obtain ⟨_, mh652⟩ := zk_gd mh652
                  obtain ⟨mv_18, me656, mh652⟩ := zk_lt mh652
                  replace me656 := me656.symm
                  subst me656
                  obtain ⟨_, mh652⟩ := zk_gd mh652
                  obtain ⟨mf_20, me657, mh652⟩ := zk_lt mh652
                  obtain ⟨mv_21, me658, mh652⟩ := zk_lt mh652
                  subst me658
                  have mh652 := zk_f (fun z => absurd ((BR_E (n := 112) mk654 (by decide)).mp z) (by omega)) mh652
                  unfold B_X12_readEnding_180 at mh652
                  obtain ⟨mr_42, mu_43, mh659, mh652⟩ := zk_o2 mh652
                  obtain mk660 := mb_look hT hR ck133 mh659
                  have mh652 := zk_t ((BR_E (n := 119) mk660 (by decide)).mpr (by omega)) mh652
                  unfold B_X12_readEnding_203 at mh652
                  obtain ⟨mr_52, mu_53, mh661, mh652⟩ := zk_o2 mh652
                  obtain mk662 := mb_look hT hR ck133 mh661
                  have mh652 := zk_t ((BR_E (n := 119) mk662 (by decide)).mpr (by omega)) mh652
                  unfold B_X12_readEnding_222 at mh652
                  obtain ⟨_, mh652⟩ := zk_gd mh652
                  obtain ⟨mf_57, me663, mh652⟩ := zk_lt mh652
                  obtain ⟨mv_58, me664, mh652⟩ := zk_lt mh652
                  subst me664
                  simp only [Option.some.injEq, Prod.mk.injEq] at mh652
                  obtain ⟨rfl, rfl, rfl, rfl, rfl⟩ := mh652
                  subst me655
                  subst me657
                  subst me663
                  first | (exfalso; omega) | (refine Or.inr ⟨rfl, ck140, by first | decide | omega, by first | decide | omega, _, by first | exact ⟨fun z => absurd z (by decide), fun _ => rfl⟩ | exact ⟨fun _ => by rw [(nm_digit (ts := ts) (tb := tb) (a := ((at_ + 1) + (1 : Int32))) (by omega)).1, BR_v mk660 (by have hbz : bZ ts tb ((at_ + 1) + (1 : Int32)) = (bz ts tb ((at_ + 1) + (1 : Int32))).toInt := rfl; omega)], fun z => absurd rfl z⟩ | exact ⟨fun _ => by rw [(nm_digit (ts := ts) (tb := tb) (a := ((at_ + 1) + (1 : Int32))) (by omega)).1, BR_v mk662 (by have hbz : bZ ts tb ((at_ + 1) + (1 : Int32)) = (bz ts tb ((at_ + 1) + (1 : Int32))).toInt := rfl; omega)], fun z => absurd rfl z⟩, k⟩)
                · exact (mk647 ck2).elim
              · replace cq143 := cq143.symm
                subst cq143
                replace cq144 := cq144.symm
                subst cq144
                replace h := zk_t (by decide) h
                unfold B_X8_readEnding_138 at h
                replace h := zk_t (by decide) h
                replace h := zk_o2 h
                obtain ⟨cu_38, cu_39, ch145, h⟩ := h
                rcases cb_expectN (n := 108) hT hf ck133 (by decide) ch145 with ⟨ck146, cq148, cq149, ck147⟩ | ⟨ck146, cq150, cq151⟩
                · replace cq148 := cq148.symm
                  subst cq148
                  replace cq149 := cq149.symm
                  subst cq149
                  have ck147a := ck147.1
                  simp only [Option.some.injEq, Prod.mk.injEq] at h
                  obtain ⟨rfl, rfl, rfl, rfl, rfl, rfl⟩ := h
                  replace k := zk_o3 k
                  obtain ⟨mr_43, mu_44, mu_45, mh665, k⟩ := k
                  rcases mb_takesN (n := 61) hT hR hf hp (by decide) mh665 with ⟨mk666, mq668, mq669, mq670, mk667⟩ | ⟨mk666, _, _, _⟩
                  · replace mq668 := mq668.symm
                    subst mq668
                    replace mq669 := mq669.symm
                    subst mq669
                    replace mq670 := mq670.symm
                    subst mq670
                    have mk667a := mk667.1
                    replace k := zk_f (by decide) k
                    replace k := zk_o5 k
                    obtain ⟨mu_48, mu_49, mu_50, mu_51, mu_52, mh671, k⟩ := k
                    unfold f_X12_readEnding at mh671
                    unfold B_X12_readEnding_0 at mh671
                    obtain ⟨mr_1, mu_2, mh672, mh671⟩ := zk_o2 mh671
                    obtain mk673 := mb_look hT hR mk667 mh672
                    have mh671 := zk_f (fun z => absurd ((BR_E (n := 109) mk673 (by decide)).mp z) (by omega)) mh671
                    have mh671 := zk_f (fun z => absurd ((BR_E (n := 102) mk673 (by decide)).mp z) (by omega)) mh671
                    have mh671 := zk_f (fun z => absurd ((BR_E (n := 97) mk673 (by decide)).mp z) (by omega)) mh671
                    have mh671 := zk_t ((BR_E (n := 100) mk673 (by decide)).mpr (by omega)) mh671
                    unfold B_X12_readEnding_40 at mh671
                    have mh671 := zk_f (fun z => absurd ((BR_E (n := 109) mk673 (by decide)).mp z) (by omega)) mh671
                    have mh671 := zk_f (fun z => absurd ((BR_E (n := 102) mk673 (by decide)).mp z) (by omega)) mh671
                    have mh671 := zk_f (fun z => absurd ((BR_E (n := 97) mk673 (by decide)).mp z) (by omega)) mh671
                    have mh671 := zk_t ((BR_E (n := 100) mk673 (by decide)).mpr (by omega)) mh671
                    unfold B_X12_readEnding_87 at mh671
                    rw [hq] at mh671
                    obtain ⟨_, mh671⟩ := zk_gd mh671
                    obtain ⟨mf_16, me674, mh671⟩ := zk_lt mh671
                    obtain ⟨_, mh671⟩ := zk_gd mh671
                    obtain ⟨mv_18, me675, mh671⟩ := zk_lt mh671
                    replace me675 := me675.symm
                    subst me675
                    obtain ⟨_, mh671⟩ := zk_gd mh671
                    obtain ⟨mf_20, me676, mh671⟩ := zk_lt mh671
                    obtain ⟨mv_21, me677, mh671⟩ := zk_lt mh671
                    subst me677
                    have mh671 := zk_f (fun z => absurd ((BR_E (n := 112) mk673 (by decide)).mp z) (by omega)) mh671
                    unfold B_X12_readEnding_180 at mh671
                    obtain ⟨mr_42, mu_43, mh678, mh671⟩ := zk_o2 mh671
                    obtain mk679 := mb_look hT hR ck133 mh678
                    have mh671 := zk_f (fun z => absurd ((BR_E (n := 119) mk679 (by decide)).mp z) (by omega)) mh671
                    obtain ⟨mr_46, mu_47, mh680, mh671⟩ := zk_o2 mh671
                    obtain mk681 := mb_look hT hR ck133 mh680
                    have mh671 := zk_t ((BR_E (n := 108) mk681 (by decide)).mpr (by omega)) mh671
                    unfold B_X12_readEnding_203 at mh671
                    obtain ⟨mr_52, mu_53, mh682, mh671⟩ := zk_o2 mh671
                    obtain mk683 := mb_look hT hR ck133 mh682
                    have mh671 := zk_f (fun z => absurd ((BR_E (n := 119) mk683 (by decide)).mp z) (by omega)) mh671
                    unfold B_X12_readEnding_222 at mh671
                    obtain ⟨_, mh671⟩ := zk_gd mh671
                    obtain ⟨mf_57, me684, mh671⟩ := zk_lt mh671
                    obtain ⟨mv_58, me685, mh671⟩ := zk_lt mh671
                    subst me685
                    simp only [Option.some.injEq, Prod.mk.injEq] at mh671
                    obtain ⟨rfl, rfl, rfl, rfl, rfl⟩ := mh671
                    subst me674
                    subst me676
                    subst me684
                    first | (exfalso; omega) | (refine Or.inr ⟨rfl, ck147, by first | decide | omega, by first | decide | omega, _, by first | exact ⟨fun z => absurd z (by decide), fun _ => rfl⟩ | exact ⟨fun _ => by rw [(nm_digit (ts := ts) (tb := tb) (a := ((at_ + 1) + (1 : Int32))) (by omega)).1, BR_v mk679 (by have hbz : bZ ts tb ((at_ + 1) + (1 : Int32)) = (bz ts tb ((at_ + 1) + (1 : Int32))).toInt := rfl; omega)], fun z => absurd rfl z⟩ | exact ⟨fun _ => by rw [(nm_digit (ts := ts) (tb := tb) (a := ((at_ + 1) + (1 : Int32))) (by omega)).1, BR_v mk681 (by have hbz : bZ ts tb ((at_ + 1) + (1 : Int32)) = (bz ts tb ((at_ + 1) + (1 : Int32))).toInt := rfl; omega)], fun z => absurd rfl z⟩ | exact ⟨fun _ => by rw [(nm_digit (ts := ts) (tb := tb) (a := ((at_ + 1) + (1 : Int32))) (by omega)).1, BR_v mk683 (by have hbz : bZ ts tb ((at_ + 1) + (1 : Int32)) = (bz ts tb ((at_ + 1) + (1 : Int32))).toInt := rfl; omega)], fun z => absurd rfl z⟩, k⟩)
                  · exact (mk666 ck2).elim
                · replace cq150 := cq150.symm
                  subst cq150
                  replace cq151 := cq151.symm
                  subst cq151
                  simp only [Option.some.injEq, Prod.mk.injEq] at h
                  obtain ⟨rfl, rfl, rfl, rfl, rfl, rfl⟩ := h
                  replace k := zk_o3 k
                  obtain ⟨mr_43, mu_44, mu_45, mh686, k⟩ := k
                  rcases mb_takesN (n := 61) hT hR hf hp (by decide) mh686 with ⟨mk687, mq689, mq690, mq691, mk688⟩ | ⟨mk687, _, _, _⟩
                  · replace mq689 := mq689.symm
                    subst mq689
                    replace mq690 := mq690.symm
                    subst mq690
                    replace mq691 := mq691.symm
                    subst mq691
                    have mk688a := mk688.1
                    replace k := zk_f (by decide) k
                    replace k := zk_o5 k
                    obtain ⟨mu_48, mu_49, mu_50, mu_51, mu_52, mh692, k⟩ := k
                    unfold f_X12_readEnding at mh692
                    unfold B_X12_readEnding_0 at mh692
                    obtain ⟨mr_1, mu_2, mh693, mh692⟩ := zk_o2 mh692
                    obtain mk694 := mb_look hT hR mk688 mh693
                    have mh692 := zk_f (fun z => absurd ((BR_E (n := 109) mk694 (by decide)).mp z) (by omega)) mh692
                    have mh692 := zk_f (fun z => absurd ((BR_E (n := 102) mk694 (by decide)).mp z) (by omega)) mh692
                    have mh692 := zk_f (fun z => absurd ((BR_E (n := 97) mk694 (by decide)).mp z) (by omega)) mh692
                    have mh692 := zk_t ((BR_E (n := 100) mk694 (by decide)).mpr (by omega)) mh692
                    unfold B_X12_readEnding_40 at mh692
                    have mh692 := zk_f (fun z => absurd ((BR_E (n := 109) mk694 (by decide)).mp z) (by omega)) mh692
                    have mh692 := zk_f (fun z => absurd ((BR_E (n := 102) mk694 (by decide)).mp z) (by omega)) mh692
                    have mh692 := zk_f (fun z => absurd ((BR_E (n := 97) mk694 (by decide)).mp z) (by omega)) mh692
                    have mh692 := zk_t ((BR_E (n := 100) mk694 (by decide)).mpr (by omega)) mh692
                    unfold B_X12_readEnding_87 at mh692
                    rw [hq] at mh692
                    obtain ⟨_, mh692⟩ := zk_gd mh692
                    obtain ⟨mf_16, me695, mh692⟩ := zk_lt mh692
                    obtain ⟨_, mh692⟩ := zk_gd mh692
                    obtain ⟨mv_18, me696, mh692⟩ := zk_lt mh692
                    replace me696 := me696.symm
                    subst me696
                    obtain ⟨_, mh692⟩ := zk_gd mh692
                    obtain ⟨mf_20, me697, mh692⟩ := zk_lt mh692
                    obtain ⟨mv_21, me698, mh692⟩ := zk_lt mh692
                    subst me698
                    have mh692 := zk_f (fun z => absurd ((BR_E (n := 112) mk694 (by decide)).mp z) (by omega)) mh692
                    unfold B_X12_readEnding_180 at mh692
                    obtain ⟨mr_42, mu_43, mh699, mh692⟩ := zk_o2 mh692
                    obtain mk700 := mb_look hT hR ck133 mh699
                    have mh692 := zk_f (fun z => absurd ((BR_E (n := 119) mk700 (by decide)).mp z) (by omega)) mh692
                    obtain ⟨mr_46, mu_47, mh701, mh692⟩ := zk_o2 mh692
                    obtain mk702 := mb_look hT hR ck133 mh701
                    have mh692 := zk_f (fun z => absurd ((BR_E (n := 108) mk702 (by decide)).mp z) (by omega)) mh692
                    obtain ⟨mu_50, mh703, mh692⟩ := zk_o1 mh692
                    obtain mq704 := mb_wrongN hf mh703
                    replace mq704 := mq704.symm
                    subst mq704
                    simp only [Option.some.injEq, Prod.mk.injEq] at mh692
                    obtain ⟨rfl, rfl, rfl, rfl, rfl⟩ := mh692
                    replace k := zk_o3 k
                    obtain ⟨mr_54, mu_55, mu_56, mh705, k⟩ := k
                    obtain ⟨mq706, mq707, mq708⟩ := mb_takesP (ck133).1 mh705
                    replace mq706 := mq706.symm
                    subst mq706
                    replace mq707 := mq707.symm
                    subst mq707
                    replace mq708 := mq708.symm
                    subst mq708
                    replace k := zk_t (by decide) k
                    subst me695
                    subst me697
                    replace k := Option.some.inj k
                    rw [← k]
                    first | (exfalso; omega) | exact Or.inl ⟨(ck133).1, rfl, ⟨by intro j hj; first | rfl | exact upd_n hj | exact (upd_n hj).trans (upd_n hj), by intro j hj; first | rfl | exact upd_n hj | exact (upd_n hj).trans (upd_n hj), by intro j hj; first | rfl | exact upd_n hj | exact (upd_n hj).trans (upd_n hj), by intro j hj; first | rfl | exact upd_n hj | exact (upd_n hj).trans (upd_n hj), by intro j hj; first | rfl | exact upd_n hj | exact (upd_n hj).trans (upd_n hj), by intro j hj; first | rfl | exact upd_n hj | exact (upd_n hj).trans (upd_n hj), by intro j hj; first | rfl | exact upd_n hj | exact (upd_n hj).trans (upd_n hj), by intro j hj; first | rfl | exact upd_n hj | exact (upd_n hj).trans (upd_n hj), fun _ _ => rfl, fun _ _ => rfl⟩⟩
                  · exact (mk687 ck2).elim
            · replace cq136 := cq136.symm
              subst cq136
              replace cq137 := cq137.symm
              subst cq137
              unfold B_X8_readEnding_123 at h
              replace h := zk_o2 h
              obtain ⟨cr_33, cu_34, ch152, h⟩ := h
              obtain ⟨cq153, cq154⟩ := cb_acceptP (ck3).1 ch152
              replace cq153 := cq153.symm
              subst cq153
              replace cq154 := cq154.symm
              subst cq154
              replace h := zk_t (by decide) h
              unfold B_X8_readEnding_138 at h
              replace h := zk_t (by decide) h
              replace h := zk_o2 h
              obtain ⟨cu_38, cu_39, ch155, h⟩ := h
              obtain ⟨cq156, cq157⟩ := cb_expectP (ck3).1 ch155
              replace cq156 := cq156.symm
              subst cq156
              replace cq157 := cq157.symm
              subst cq157
              simp only [Option.some.injEq, Prod.mk.injEq] at h
              obtain ⟨rfl, rfl, rfl, rfl, rfl, rfl⟩ := h
              replace k := zk_o3 k
              obtain ⟨mr_43, mu_44, mu_45, mh709, k⟩ := k
              rcases mb_takesN (n := 61) hT hR hf hp (by decide) mh709 with ⟨mk710, mq712, mq713, mq714, mk711⟩ | ⟨mk710, _, _, _⟩
              · replace mq712 := mq712.symm
                subst mq712
                replace mq713 := mq713.symm
                subst mq713
                replace mq714 := mq714.symm
                subst mq714
                have mk711a := mk711.1
                replace k := zk_f (by decide) k
                replace k := zk_o5 k
                obtain ⟨mu_48, mu_49, mu_50, mu_51, mu_52, mh715, k⟩ := k
                unfold f_X12_readEnding at mh715
                unfold B_X12_readEnding_0 at mh715
                obtain ⟨mr_1, mu_2, mh716, mh715⟩ := zk_o2 mh715
                obtain mk717 := mb_look hT hR mk711 mh716
                have mh715 := zk_f (fun z => absurd ((BR_E (n := 109) mk717 (by decide)).mp z) (by omega)) mh715
                have mh715 := zk_f (fun z => absurd ((BR_E (n := 102) mk717 (by decide)).mp z) (by omega)) mh715
                have mh715 := zk_f (fun z => absurd ((BR_E (n := 97) mk717 (by decide)).mp z) (by omega)) mh715
                have mh715 := zk_f (fun z => absurd ((BR_E (n := 100) mk717 (by decide)).mp z) (by omega)) mh715
                have mh715 := zk_f (fun z => absurd ((BR_E (n := 112) mk717 (by decide)).mp z) (by omega)) mh715
                obtain ⟨mu_9, mh718, mh715⟩ := zk_o1 mh715
                obtain mq719 := mb_wrongN hf mh718
                replace mq719 := mq719.symm
                subst mq719
                simp only [Option.some.injEq, Prod.mk.injEq] at mh715
                obtain ⟨rfl, rfl, rfl, rfl, rfl⟩ := mh715
                replace k := zk_o3 k
                obtain ⟨mr_54, mu_55, mu_56, mh720, k⟩ := k
                obtain ⟨mq721, mq722, mq723⟩ := mb_takesP (mk711).1 mh720
                replace mq721 := mq721.symm
                subst mq721
                replace mq722 := mq722.symm
                subst mq722
                replace mq723 := mq723.symm
                subst mq723
                replace k := zk_t (by decide) k
                replace k := Option.some.inj k
                rw [← k]
                first | (exfalso; omega) | exact Or.inl ⟨(mk711).1, rfl, ⟨by intro j hj; first | rfl | exact upd_n hj | exact (upd_n hj).trans (upd_n hj), by intro j hj; first | rfl | exact upd_n hj | exact (upd_n hj).trans (upd_n hj), by intro j hj; first | rfl | exact upd_n hj | exact (upd_n hj).trans (upd_n hj), by intro j hj; first | rfl | exact upd_n hj | exact (upd_n hj).trans (upd_n hj), by intro j hj; first | rfl | exact upd_n hj | exact (upd_n hj).trans (upd_n hj), by intro j hj; first | rfl | exact upd_n hj | exact (upd_n hj).trans (upd_n hj), by intro j hj; first | rfl | exact upd_n hj | exact (upd_n hj).trans (upd_n hj), by intro j hj; first | rfl | exact upd_n hj | exact (upd_n hj).trans (upd_n hj), fun _ _ => rfl, fun _ _ => rfl⟩⟩
              · exact (mk710 ck2).elim
  · replace cq6 := cq6.symm
    subst cq6
    replace cq7 := cq7.symm
    subst cq7
    replace h := zk_o2 h
    obtain ⟨cr_4, cu_5, ch158, h⟩ := h
    obtain ⟨cq159, cq160⟩ := cb_acceptP (hp).1 ch158
    replace cq159 := cq159.symm
    subst cq159
    replace cq160 := cq160.symm
    subst cq160
    replace h := zk_t (by decide) h
    replace h := zk_o2 h
    obtain ⟨cr_8, cu_9, ch161, h⟩ := h
    obtain ⟨cq162, cq163⟩ := cb_acceptP (hp).1 ch161
    replace cq162 := cq162.symm
    subst cq162
    replace cq163 := cq163.symm
    subst cq163
    replace h := zk_t (by decide) h
    replace h := zk_o2 h
    obtain ⟨cr_12, cu_13, ch164, h⟩ := h
    obtain ⟨cq165, cq166⟩ := cb_acceptP (hp).1 ch164
    replace cq165 := cq165.symm
    subst cq165
    replace cq166 := cq166.symm
    subst cq166
    replace h := zk_t (by decide) h
    replace h := zk_o2 h
    obtain ⟨cr_16, cu_17, ch167, h⟩ := h
    obtain ⟨cq168, cq169⟩ := cb_acceptP (hp).1 ch167
    replace cq168 := cq168.symm
    subst cq168
    replace cq169 := cq169.symm
    subst cq169
    replace h := zk_t (by decide) h
    unfold B_X8_readEnding_106 at h
    replace h := zk_t (by decide) h
    replace h := zk_o2 h
    obtain ⟨cu_30, cu_31, ch170, h⟩ := h
    obtain ⟨cq171, cq172⟩ := cb_expectP (hp).1 ch170
    replace cq171 := cq171.symm
    subst cq171
    replace cq172 := cq172.symm
    subst cq172
    unfold B_X8_readEnding_123 at h
    replace h := zk_o2 h
    obtain ⟨cr_33, cu_34, ch173, h⟩ := h
    obtain ⟨cq174, cq175⟩ := cb_acceptP (hp).1 ch173
    replace cq174 := cq174.symm
    subst cq174
    replace cq175 := cq175.symm
    subst cq175
    replace h := zk_t (by decide) h
    unfold B_X8_readEnding_138 at h
    replace h := zk_t (by decide) h
    replace h := zk_o2 h
    obtain ⟨cu_38, cu_39, ch176, h⟩ := h
    obtain ⟨cq177, cq178⟩ := cb_expectP (hp).1 ch176
    replace cq177 := cq177.symm
    subst cq177
    replace cq178 := cq178.symm
    subst cq178
    simp only [Option.some.injEq, Prod.mk.injEq] at h
    obtain ⟨rfl, rfl, rfl, rfl, rfl, rfl⟩ := h
    replace k := zk_o3 k
    obtain ⟨mr_43, mu_44, mu_45, mh724, k⟩ := k
    rcases mb_takesN (n := 61) hT hR hf hp (by decide) mh724 with ⟨mk725, _, _, _, mk726⟩ | ⟨mk725, mq727, mq728, mq729⟩
    · exact (ck2 mk725).elim
    · replace mq727 := mq727.symm
      subst mq727
      replace mq728 := mq728.symm
      subst mq728
      replace mq729 := mq729.symm
      subst mq729
      replace k := zk_t (by decide) k
      replace k := Option.some.inj k
      rw [← k]
      first | (exfalso; omega) | exact Or.inl ⟨(hp).1, rfl, ⟨by intro j hj; first | rfl | exact upd_n hj | exact (upd_n hj).trans (upd_n hj), by intro j hj; first | rfl | exact upd_n hj | exact (upd_n hj).trans (upd_n hj), by intro j hj; first | rfl | exact upd_n hj | exact (upd_n hj).trans (upd_n hj), by intro j hj; first | rfl | exact upd_n hj | exact (upd_n hj).trans (upd_n hj), by intro j hj; first | rfl | exact upd_n hj | exact (upd_n hj).trans (upd_n hj), by intro j hj; first | rfl | exact upd_n hj | exact (upd_n hj).trans (upd_n hj), by intro j hj; first | rfl | exact upd_n hj | exact (upd_n hj).trans (upd_n hj), by intro j hj; first | rfl | exact upd_n hj | exact (upd_n hj).trans (upd_n hj), fun _ _ => rfl, fun _ _ => rfl⟩⟩
