
def M107t (g83 : Int32 → Int32 → Int32 → (Nat → Int32) → (Nat → Int32) → (Nat → Int32) → (Nat → Int32) → (Nat → Int32) → (Nat → Int32) → (Nat → Int32) → (Nat → Int32) → (Nat → Int32) → (Nat → Int32) → (Option (Int32 × Int32 × (Nat → Int32) × (Nat → Int32) × (Nat → Int32) × (Nat → Int32) × (Nat → Int32) × (Nat → Int32) × (Nat → Int32) × (Nat → Int32) × (Nat → Int32) × (Nat → Int32)))) (mod_code : Int32) (mod_shoes : Int32) (mod_claims : Int32) (mod_taped : Int32) (mod_suits : Int32) (mod_doneMany : Int32) (mod_undoneMany : Int32) (mod_open : Int32) (mod_laid : Int32) (mod_isBoth : Int32) (mod_wished : Int32) (mod_bestMany : Int32) (mod_bestRow : Int32) (mod_ringDigits : Int32) (mod_traces : Int32) (mod_tape : Nat → Int32) (x1 : Int32) (mod_here : Int32) (mod_fault : Int32) (mod_suedBy : Nat → Int32) (mod_suedOn : Nat → Int32) (mod_endKind : Nat → Int32) (mod_isWon : Nat → Int32) (mod_suitDay : Nat → Int32) (mod_suitLand : Nat → Int32) (mod_askedMany : Nat → Int32) (mod_firstMany : Nat → Int32) (mod_asked : Nat → Int32) (mod_pointIs : Nat → Int32) : Option (Int32 × Int32 × (Nat → Int32) × (Nat → Int32) × (Nat → Int32) × (Nat → Int32) × (Nat → Int32) × (Nat → Int32) × (Nat → Int32) × (Nat → Int32) × (Nat → Int32) × (Nat → Int32)) :=
  (zk_b3 (f_X12_takes (64 : Int32) mod_code mod_shoes mod_claims mod_taped mod_here mod_fault mod_suits mod_doneMany mod_undoneMany mod_open mod_laid mod_isBoth mod_wished mod_bestMany mod_bestRow mod_ringDigits mod_traces mod_tape) (fun r_54 u_55 u_56 => (if r_54 = 0 then (some (u_55, u_56, mod_suedBy, mod_suedOn, mod_endKind, mod_isWon, mod_suitDay, mod_suitLand, mod_askedMany, mod_firstMany, mod_asked, mod_pointIs)) else (zk_b3 (f_X12_number 100000 (4 : Int32) (10000 : Int32) mod_code mod_shoes mod_claims mod_taped u_55 u_56 mod_suits mod_doneMany mod_undoneMany mod_open mod_laid mod_isBoth mod_wished mod_bestMany mod_bestRow mod_ringDigits mod_traces mod_tape) (fun r_59 u_60 u_61 => (if (x1 < 0 ∨ 45 ≤ x1.toNatClampNeg) then none else (zk_let (upd mod_suitDay x1.toNatClampNeg r_59) (fun f_64 => (zk_b3 (f_X12_takes (47 : Int32) mod_code mod_shoes mod_claims mod_taped u_60 u_61 mod_suits mod_doneMany mod_undoneMany mod_open mod_laid mod_isBoth mod_wished mod_bestMany mod_bestRow mod_ringDigits mod_traces mod_tape) (fun r_65 u_66 u_67 => (if r_65 = 0 then (some (u_66, u_67, mod_suedBy, mod_suedOn, mod_endKind, mod_isWon, f_64, mod_suitLand, mod_askedMany, mod_firstMany, mod_asked, mod_pointIs)) else (zk_b3 (f_X12_number 100000 (1 : Int32) (8 : Int32) mod_code mod_shoes mod_claims mod_taped u_66 u_67 mod_suits mod_doneMany mod_undoneMany mod_open mod_laid mod_isBoth mod_wished mod_bestMany mod_bestRow mod_ringDigits mod_traces mod_tape) (fun r_70 u_71 u_72 => (if (x1 < 0 ∨ 45 ≤ x1.toNatClampNeg) then none else (zk_let (upd mod_suitLand x1.toNatClampNeg r_70) (fun f_75 => (if 0 ≤ u_72 then (some (u_71, u_72, mod_suedBy, mod_suedOn, mod_endKind, mod_isWon, f_64, f_75, mod_askedMany, mod_firstMany, mod_asked, mod_pointIs)) else (if mod_taped ≤ u_71 then (some (u_71, u_72, mod_suedBy, mod_suedOn, mod_endKind, mod_isWon, f_64, f_75, mod_askedMany, mod_firstMany, mod_asked, mod_pointIs)) else (zk_b1 (f_X12_wrong mod_code mod_shoes mod_claims mod_taped u_71 u_72 mod_suits mod_doneMany mod_undoneMany mod_open mod_laid mod_isBoth mod_wished mod_bestMany mod_bestRow mod_ringDigits mod_traces) (fun u_78 => (some (u_71, u_78, mod_suedBy, mod_suedOn, mod_endKind, mod_isWon, f_64, f_75, mod_askedMany, mod_firstMany, mod_asked, mod_pointIs))))))))))))))))))))))
set_option maxHeartbeats 4000000 in
set_option maxRecDepth 20000 in
theorem s4_end {mod_code : Int32} {court_shoeCount : Int32} {mod_claims : Int32} {ts : Int32} {at_ : Int32} {f : Int32} {court_suitCount : Int32} {mod_doneMany : Int32} {mod_undoneMany : Int32} {mod_open : Int32} {mod_laid : Int32} {mod_isBoth : Int32} {mod_wished : Int32} {mod_bestMany : Int32} {mod_bestRow : Int32} {mod_ringDigits : Int32} {mod_traces : Int32} {tm : Nat → Int32} {mod_askedMany : Nat → Int32} {mod_asked : Nat → Int32} {mod_pointIs : Nat → Int32} {mod_endKind : Nat → Int32} {mod_isWon : Nat → Int32} {mod_firstMany : Nat → Int32} {mod_suedBy : Nat → Int32} {mod_suedOn : Nat → Int32} {mod_suitDay : Nat → Int32} {mod_suitLand : Nat → Int32} {tb : Nat → Int32} {su_who : Int32} {su_against : Int32} {su_kind : Int32} {su_won : Int32} {su_day : Int32} {su_land : Int32} {su_undoneFrom : Int32} {su_askedCount : Int32} {su_askedBits : Int32} {su_first : Int32} {su_foundSo : Int32} {su_foundNot : Int32} {su_fought : Int32} {su_needed : Int32} {sp : Value} {na : Int32} {g : Int32 → Int32 → Int32 → (Nat → Int32) → (Nat → Int32) → (Nat → Int32) → (Nat → Int32) → (Nat → Int32) → (Nat → Int32) → (Nat → Int32) → (Nat → Int32) → (Nat → Int32) → (Nat → Int32) → (Option (Int32 × Int32 × (Nat → Int32) × (Nat → Int32) × (Nat → Int32) × (Nat → Int32) × (Nat → Int32) × (Nat → Int32) × (Nat → Int32) × (Nat → Int32) × (Nat → Int32) × (Nat → Int32)))} {x1 a1 n1 f1 k1 w1 s1 : Int32} {R : Int32 × Int32 × (Nat → Int32) × (Nat → Int32) × (Nat → Int32) × (Nat → Int32) × (Nat → Int32) × (Nat → Int32) × (Nat → Int32) × (Nat → Int32) × (Nat → Int32) × (Nat → Int32)} (hT : TS ts) (hR : TR ts tb tm) (hf : f.toInt < 0) (hp : PB ts at_) (hq : mod_askedMany x1.toNatClampNeg = su_askedCount) (hq2 : 0 ≤ su_askedCount.toInt ∧ su_askedCount.toInt ≤ 32) (h : f_X8_readEnding ts tb sp at_ na f su_who su_against su_kind su_won su_day su_land su_undoneFrom su_askedCount su_askedBits su_first su_foundSo su_foundNot su_fought su_needed = some (a1, n1, f1, k1, w1, s1)) (k : B_X12_readSuit_107 g mod_code court_shoeCount mod_claims ts court_suitCount mod_doneMany mod_undoneMany mod_open mod_laid mod_isBoth mod_wished mod_bestMany mod_bestRow mod_ringDigits mod_traces tm x1 at_ f mod_suedBy mod_suedOn mod_endKind mod_isWon mod_suitDay mod_suitLand mod_askedMany mod_firstMany mod_asked mod_pointIs = some R) : (0 ≤ f1.toInt ∧ R.2.1 = f1 ∧ RFR x1.toInt.toNat (mod_suedBy, mod_suedOn, mod_endKind, mod_isWon, mod_suitDay, mod_suitLand, mod_askedMany, mod_firstMany, mod_asked, mod_pointIs) R.2.2) ∨ (f1 = f ∧ PB ts a1 ∧ (0 ≤ k1.toInt ∧ k1.toInt ≤ 6) ∧ (0 ≤ w1.toInt ∧ w1.toInt ≤ 1) ∧ ∃ fm : Nat → Int32, ((k1 = 6 → fm = upd (upd mod_firstMany x1.toNatClampNeg su_askedCount) x1.toNatClampNeg s1) ∧ (k1 ≠ 6 → fm = upd mod_firstMany x1.toNatClampNeg su_askedCount)) ∧ M107t g mod_code court_shoeCount mod_claims ts court_suitCount mod_doneMany mod_undoneMany mod_open mod_laid mod_isBoth mod_wished mod_bestMany mod_bestRow mod_ringDigits mod_traces tm x1 a1 f mod_suedBy mod_suedOn (upd mod_endKind x1.toNatClampNeg k1) (upd mod_isWon x1.toNatClampNeg w1) mod_suitDay mod_suitLand mod_askedMany fm mod_asked mod_pointIs = some R) := by
  unfold f_X8_readEnding B_X8_readEnding_0 at h
  unfold B_X12_readSuit_107 at k
  replace h := zk_o2 h
  obtain ⟨cu_1, cu_2, ch1, h⟩ := h
  rcases cb_expectN (n := 61) hT hf hp (by decide) ch1 with ⟨ck2, cq4, cq5, ck3⟩ | ⟨ck2, cq6, cq7⟩
  · replace cq4 := cq4.symm
    subst cq4
    replace cq5 := cq5.symm
    subst cq5
    have ck3a := ck3.1
    replace h := zk_o2 h
    obtain ⟨cr_4, cu_5, ch8, h⟩ := h
    rcases cb_acceptN (n := 112) hT hf ck3 (by decide) ch8 with ⟨ck9, cq11, cq12, ck10⟩ | ⟨ck9, cq13, cq14⟩
    · replace cq11 := cq11.symm
      subst cq11
      replace cq12 := cq12.symm
      subst cq12
      have ck10a := ck10.1
      replace h := zk_f (by decide) h
      replace h := zk_o4 h
      obtain ⟨cr_20, cu_21, cu_22, cu_23, ch15, h⟩ := h
      rcases cb_numberD hT hf ck10 ch15 with ⟨ck16, cq18, cq19, cq20, cq21, ck17⟩ | ⟨ck16, cq22, cq23, cq24, cq25⟩
      · replace cq18 := cq18.symm
        subst cq18
        replace cq19 := cq19.symm
        subst cq19
        replace cq20 := cq20.symm
        subst cq20
        replace cq21 := cq21.symm
        subst cq21
        have ck17a := ck17.1
        have ck17b := nmv_b1 (ts := ts) (tb := tb) ((at_ + 1) + 1)
        have ck17c := nm_1 ck16
        by_cases cc26 : (nmv ts tb 1 ((at_ + 1) + 1)) < (1 : Int32)
        · replace h := zk_t cc26 h
          have cc26n := cc26
          (try simp only [i32_lt, i32_le, i32_e, z32_0, z32_1] at cc26n)
          unfold B_X8_readEnding_54 at h
          unfold B_X8_readEnding_55 at h
          replace h := zk_o1 h
          obtain ⟨cu_27, ch27, h⟩ := h
          obtain cq28 := cb_judge0N hf ch27
          replace cq28 := cq28.symm
          subst cq28
          unfold B_X8_readEnding_123 at h
          replace h := zk_o2 h
          obtain ⟨cr_33, cu_34, ch29, h⟩ := h
          obtain ⟨cq30, cq31⟩ := cb_acceptP (ck10).1 ch29
          replace cq30 := cq30.symm
          subst cq30
          replace cq31 := cq31.symm
          subst cq31
          replace h := zk_t (by decide) h
          unfold B_X8_readEnding_138 at h
          replace h := zk_t (by decide) h
          replace h := zk_o2 h
          obtain ⟨cu_38, cu_39, ch32, h⟩ := h
          obtain ⟨cq33, cq34⟩ := cb_expectP (ck10).1 ch32
          replace cq33 := cq33.symm
          subst cq33
          replace cq34 := cq34.symm
          subst cq34
          simp only [Option.some.injEq, Prod.mk.injEq] at h
          obtain ⟨rfl, rfl, rfl, rfl, rfl, rfl⟩ := h
          replace k := zk_o3 k
          obtain ⟨mr_43, mu_44, mu_45, mh1, k⟩ := k
          rcases mb_takesN (n := 61) hT hR hf hp (by decide) mh1 with ⟨mk2, mq4, mq5, mq6, mk3⟩ | ⟨mk2, _, _, _⟩
          · replace mq4 := mq4.symm
            subst mq4
            replace mq5 := mq5.symm
            subst mq5
            replace mq6 := mq6.symm
            subst mq6
            have mk3a := mk3.1
            replace k := zk_f (by decide) k
            replace k := zk_o5 k
            obtain ⟨mu_48, mu_49, mu_50, mu_51, mu_52, mh7, k⟩ := k
            unfold f_X12_readEnding at mh7
            unfold B_X12_readEnding_0 at mh7
            obtain ⟨mr_1, mu_2, mh8, mh7⟩ := zk_o2 mh7
            obtain mk9 := mb_look hT hR mk3 mh8
            have mh7 := zk_f (fun z => absurd ((BR_E (n := 109) mk9 (by decide)).mp z) (by omega)) mh7
            have mh7 := zk_f (fun z => absurd ((BR_E (n := 102) mk9 (by decide)).mp z) (by omega)) mh7
            have mh7 := zk_f (fun z => absurd ((BR_E (n := 97) mk9 (by decide)).mp z) (by omega)) mh7
            have mh7 := zk_f (fun z => absurd ((BR_E (n := 100) mk9 (by decide)).mp z) (by omega)) mh7
            have mh7 := zk_t ((BR_E (n := 112) mk9 (by decide)).mpr (by omega)) mh7
            unfold B_X12_readEnding_40 at mh7
            have mh7 := zk_f (fun z => absurd ((BR_E (n := 109) mk9 (by decide)).mp z) (by omega)) mh7
            have mh7 := zk_f (fun z => absurd ((BR_E (n := 102) mk9 (by decide)).mp z) (by omega)) mh7
            have mh7 := zk_f (fun z => absurd ((BR_E (n := 97) mk9 (by decide)).mp z) (by omega)) mh7
            have mh7 := zk_f (fun z => absurd ((BR_E (n := 100) mk9 (by decide)).mp z) (by omega)) mh7
            unfold B_X12_readEnding_87 at mh7
            rw [hq] at mh7
            obtain ⟨_, mh7⟩ := zk_gd mh7
            obtain ⟨mf_16, me10, mh7⟩ := zk_lt mh7
            obtain ⟨_, mh7⟩ := zk_gd mh7
            obtain ⟨mv_18, me11, mh7⟩ := zk_lt mh7
            replace me11 := me11.symm
            subst me11
            obtain ⟨_, mh7⟩ := zk_gd mh7
            obtain ⟨mf_20, me12, mh7⟩ := zk_lt mh7
            obtain ⟨mv_21, me13, mh7⟩ := zk_lt mh7
            subst me13
            have mh7 := zk_t ((BR_E (n := 112) mk9 (by decide)).mpr (by omega)) mh7
            obtain ⟨mr_23, mu_24, mh14, mh7⟩ := zk_o2 mh7
            obtain mk15 := mb_look hT hR ck10 mh14
            obtain ⟨_, mh7⟩ := zk_gd mh7
            by_cases mc16 : (9 : Int32) ≤ su_askedCount
            · have mh7 := zk_t mc16 mh7
              have mc16n := mc16
              (try simp only [i32_lt, i32_le, i32_e, z32_0, z32_1, z32L_9] at mc16n)
              unfold B_X12_readEnding_146 at mh7
              obtain ⟨mr_29, mu_30, mh17, mh7⟩ := zk_o2 mh7
              rcases mb_first mk15 (by decide) mh17 with ⟨mq20, mk18, mk19⟩ | ⟨mq21, mk18⟩
              · replace mq20 := mq20.symm
                subst mq20
                try rw [z32L_9] at mk19
                have mh7 := zk_f (by decide) mh7
                obtain ⟨mr_33, mu_34, mh22, mh7⟩ := zk_o2 mh7
                obtain mk23 := mb_look hT hR ck10 mh22
                obtain ⟨mv_36, me24, mh7⟩ := zk_lt mh7
                subst me24
                obtain ⟨_, mh7⟩ := zk_gd mh7
                obtain ⟨mf_38, me25, mh7⟩ := zk_lt mh7
                obtain ⟨mv_39, me26, mh7⟩ := zk_lt mh7
                subst me26
                unfold B_X12_readEnding_180 at mh7
                obtain ⟨mr_42, mu_43, mh27, mh7⟩ := zk_o2 mh7
                obtain mk28 := mb_look hT hR ck17 mh27
                by_cases mc29 : mr_42 = (119 : Int32)
                · have mh7 := zk_t mc29 mh7
                  have mc29n := (BR_E (n := 119) mk28 (by decide)).mp mc29
                  unfold B_X12_readEnding_203 at mh7
                  obtain ⟨mr_52, mu_53, mh30, mh7⟩ := zk_o2 mh7
                  obtain mk31 := mb_look hT hR ck17 mh30
                  have mh7 := zk_t ((BR_E (n := 119) mk31 (by decide)).mpr (by omega)) mh7
                  unfold B_X12_readEnding_222 at mh7
                  obtain ⟨_, mh7⟩ := zk_gd mh7
                  obtain ⟨mf_57, me32, mh7⟩ := zk_lt mh7
                  obtain ⟨mv_58, me33, mh7⟩ := zk_lt mh7
                  subst me33
                  simp only [Option.some.injEq, Prod.mk.injEq] at mh7
                  obtain ⟨rfl, rfl, rfl, rfl, rfl⟩ := mh7
                  subst me10
                  subst me12
                  subst me25
                  subst me32
                  exfalso; omega
                · have mh7 := zk_f mc29 mh7
                  have mc29n := (fun z => mc29 ((BR_E (n := 119) mk28 (by decide)).mpr z))
                  obtain ⟨mr_46, mu_47, mh34, mh7⟩ := zk_o2 mh7
                  obtain mk35 := mb_look hT hR ck17 mh34
                  by_cases mc36 : mr_46 = (108 : Int32)
                  · have mh7 := zk_t mc36 mh7
                    have mc36n := (BR_E (n := 108) mk35 (by decide)).mp mc36
                    unfold B_X12_readEnding_203 at mh7
                    obtain ⟨mr_52, mu_53, mh37, mh7⟩ := zk_o2 mh7
                    obtain mk38 := mb_look hT hR ck17 mh37
                    have mh7 := zk_f (fun z => absurd ((BR_E (n := 119) mk38 (by decide)).mp z) (by omega)) mh7
                    unfold B_X12_readEnding_222 at mh7
                    obtain ⟨_, mh7⟩ := zk_gd mh7
                    obtain ⟨mf_57, me39, mh7⟩ := zk_lt mh7
                    obtain ⟨mv_58, me40, mh7⟩ := zk_lt mh7
                    subst me40
                    simp only [Option.some.injEq, Prod.mk.injEq] at mh7
                    obtain ⟨rfl, rfl, rfl, rfl, rfl⟩ := mh7
                    subst me10
                    subst me12
                    subst me25
                    subst me39
                    exfalso; omega
                  · have mh7 := zk_f mc36 mh7
                    have mc36n := (fun z => mc36 ((BR_E (n := 108) mk35 (by decide)).mpr z))
                    obtain ⟨mu_50, mh41, mh7⟩ := zk_o1 mh7
                    obtain mq42 := mb_wrongN hf mh41
                    replace mq42 := mq42.symm
                    subst mq42
                    simp only [Option.some.injEq, Prod.mk.injEq] at mh7
                    obtain ⟨rfl, rfl, rfl, rfl, rfl⟩ := mh7
                    replace k := zk_o3 k
                    obtain ⟨mr_54, mu_55, mu_56, mh43, k⟩ := k
                    obtain ⟨mq44, mq45, mq46⟩ := mb_takesP (ck17).1 mh43
                    replace mq44 := mq44.symm
                    subst mq44
                    replace mq45 := mq45.symm
                    subst mq45
                    replace mq46 := mq46.symm
                    subst mq46
                    replace k := zk_t (by decide) k
                    subst me10
                    subst me12
                    subst me25
                    replace k := Option.some.inj k
                    rw [← k]
                    first | (exfalso; omega) | exact Or.inl ⟨(ck10).1, rfl, ⟨by intro j hj; first | rfl | exact upd_n hj | exact (upd_n hj).trans (upd_n hj), by intro j hj; first | rfl | exact upd_n hj | exact (upd_n hj).trans (upd_n hj), by intro j hj; first | rfl | exact upd_n hj | exact (upd_n hj).trans (upd_n hj), by intro j hj; first | rfl | exact upd_n hj | exact (upd_n hj).trans (upd_n hj), by intro j hj; first | rfl | exact upd_n hj | exact (upd_n hj).trans (upd_n hj), by intro j hj; first | rfl | exact upd_n hj | exact (upd_n hj).trans (upd_n hj), by intro j hj; first | rfl | exact upd_n hj | exact (upd_n hj).trans (upd_n hj), by intro j hj; first | rfl | exact upd_n hj | exact (upd_n hj).trans (upd_n hj), fun _ _ => rfl, fun _ _ => rfl⟩⟩
              · replace mq21 := mq21.symm
                subst mq21
                try rw [z32L_9] at mk18
                have mh7 := zk_t (by decide) mh7
                obtain ⟨mu_40, mh47, mh7⟩ := zk_o1 mh7
                obtain mq48 := mb_wrongN hf mh47
                replace mq48 := mq48.symm
                subst mq48
                simp only [Option.some.injEq, Prod.mk.injEq] at mh7
                obtain ⟨rfl, rfl, rfl, rfl, rfl⟩ := mh7
                replace k := zk_o3 k
                obtain ⟨mr_54, mu_55, mu_56, mh49, k⟩ := k
                obtain ⟨mq50, mq51, mq52⟩ := mb_takesP (ck10).1 mh49
                replace mq50 := mq50.symm
                subst mq50
                replace mq51 := mq51.symm
                subst mq51
                replace mq52 := mq52.symm
                subst mq52
                replace k := zk_t (by decide) k
                subst me10
                subst me12
                replace k := Option.some.inj k
                rw [← k]
                first | (exfalso; omega) | exact Or.inl ⟨(ck10).1, rfl, ⟨by intro j hj; first | rfl | exact upd_n hj | exact (upd_n hj).trans (upd_n hj), by intro j hj; first | rfl | exact upd_n hj | exact (upd_n hj).trans (upd_n hj), by intro j hj; first | rfl | exact upd_n hj | exact (upd_n hj).trans (upd_n hj), by intro j hj; first | rfl | exact upd_n hj | exact (upd_n hj).trans (upd_n hj), by intro j hj; first | rfl | exact upd_n hj | exact (upd_n hj).trans (upd_n hj), by intro j hj; first | rfl | exact upd_n hj | exact (upd_n hj).trans (upd_n hj), by intro j hj; first | rfl | exact upd_n hj | exact (upd_n hj).trans (upd_n hj), by intro j hj; first | rfl | exact upd_n hj | exact (upd_n hj).trans (upd_n hj), fun _ _ => rfl, fun _ _ => rfl⟩⟩
            · have mh7 := zk_f mc16 mh7
              have mc16n := mc16
              (try simp only [i32_lt, i32_le, i32_e, z32_0, z32_1, z32L_9] at mc16n)
              obtain ⟨_, mh7⟩ := zk_gd mh7
              unfold B_X12_readEnding_146 at mh7
              obtain ⟨mr_29, mu_30, mh53, mh7⟩ := zk_o2 mh7
              rcases mb_first mk15 (by omega) mh53 with ⟨mq56, mk54, mk55⟩ | ⟨mq57, mk54⟩
              · replace mq56 := mq56.symm
                subst mq56
                try rw [z32L_9] at mk55
                have mh7 := zk_f (by decide) mh7
                obtain ⟨mr_33, mu_34, mh58, mh7⟩ := zk_o2 mh7
                obtain mk59 := mb_look hT hR ck10 mh58
                obtain ⟨mv_36, me60, mh7⟩ := zk_lt mh7
                subst me60
                obtain ⟨_, mh7⟩ := zk_gd mh7
                obtain ⟨mf_38, me61, mh7⟩ := zk_lt mh7
                obtain ⟨mv_39, me62, mh7⟩ := zk_lt mh7
                subst me62
                unfold B_X12_readEnding_180 at mh7
                obtain ⟨mr_42, mu_43, mh63, mh7⟩ := zk_o2 mh7
                obtain mk64 := mb_look hT hR ck17 mh63
                by_cases mc65 : mr_42 = (119 : Int32)
                · have mh7 := zk_t mc65 mh7
                  have mc65n := (BR_E (n := 119) mk64 (by decide)).mp mc65
                  unfold B_X12_readEnding_203 at mh7
                  obtain ⟨mr_52, mu_53, mh66, mh7⟩ := zk_o2 mh7
                  obtain mk67 := mb_look hT hR ck17 mh66
                  have mh7 := zk_t ((BR_E (n := 119) mk67 (by decide)).mpr (by omega)) mh7
                  unfold B_X12_readEnding_222 at mh7
                  obtain ⟨_, mh7⟩ := zk_gd mh7
                  obtain ⟨mf_57, me68, mh7⟩ := zk_lt mh7
                  obtain ⟨mv_58, me69, mh7⟩ := zk_lt mh7
                  subst me69
                  simp only [Option.some.injEq, Prod.mk.injEq] at mh7
                  obtain ⟨rfl, rfl, rfl, rfl, rfl⟩ := mh7
                  subst me10
                  subst me12
                  subst me61
                  subst me68
                  exfalso; omega
                · have mh7 := zk_f mc65 mh7
                  have mc65n := (fun z => mc65 ((BR_E (n := 119) mk64 (by decide)).mpr z))
                  obtain ⟨mr_46, mu_47, mh70, mh7⟩ := zk_o2 mh7
                  obtain mk71 := mb_look hT hR ck17 mh70
                  by_cases mc72 : mr_46 = (108 : Int32)
                  · have mh7 := zk_t mc72 mh7
                    have mc72n := (BR_E (n := 108) mk71 (by decide)).mp mc72
                    unfold B_X12_readEnding_203 at mh7
                    obtain ⟨mr_52, mu_53, mh73, mh7⟩ := zk_o2 mh7
                    obtain mk74 := mb_look hT hR ck17 mh73
                    have mh7 := zk_f (fun z => absurd ((BR_E (n := 119) mk74 (by decide)).mp z) (by omega)) mh7
                    unfold B_X12_readEnding_222 at mh7
                    obtain ⟨_, mh7⟩ := zk_gd mh7
                    obtain ⟨mf_57, me75, mh7⟩ := zk_lt mh7
                    obtain ⟨mv_58, me76, mh7⟩ := zk_lt mh7
                    subst me76
                    simp only [Option.some.injEq, Prod.mk.injEq] at mh7
                    obtain ⟨rfl, rfl, rfl, rfl, rfl⟩ := mh7
                    subst me10
                    subst me12
                    subst me61
                    subst me75
                    exfalso; omega
                  · have mh7 := zk_f mc72 mh7
                    have mc72n := (fun z => mc72 ((BR_E (n := 108) mk71 (by decide)).mpr z))
                    obtain ⟨mu_50, mh77, mh7⟩ := zk_o1 mh7
                    obtain mq78 := mb_wrongN hf mh77
                    replace mq78 := mq78.symm
                    subst mq78
                    simp only [Option.some.injEq, Prod.mk.injEq] at mh7
                    obtain ⟨rfl, rfl, rfl, rfl, rfl⟩ := mh7
                    replace k := zk_o3 k
                    obtain ⟨mr_54, mu_55, mu_56, mh79, k⟩ := k
                    obtain ⟨mq80, mq81, mq82⟩ := mb_takesP (ck17).1 mh79
                    replace mq80 := mq80.symm
                    subst mq80
                    replace mq81 := mq81.symm
                    subst mq81
                    replace mq82 := mq82.symm
                    subst mq82
                    replace k := zk_t (by decide) k
                    subst me10
                    subst me12
                    subst me61
                    replace k := Option.some.inj k
                    rw [← k]
                    first | (exfalso; omega) | exact Or.inl ⟨(ck10).1, rfl, ⟨by intro j hj; first | rfl | exact upd_n hj | exact (upd_n hj).trans (upd_n hj), by intro j hj; first | rfl | exact upd_n hj | exact (upd_n hj).trans (upd_n hj), by intro j hj; first | rfl | exact upd_n hj | exact (upd_n hj).trans (upd_n hj), by intro j hj; first | rfl | exact upd_n hj | exact (upd_n hj).trans (upd_n hj), by intro j hj; first | rfl | exact upd_n hj | exact (upd_n hj).trans (upd_n hj), by intro j hj; first | rfl | exact upd_n hj | exact (upd_n hj).trans (upd_n hj), by intro j hj; first | rfl | exact upd_n hj | exact (upd_n hj).trans (upd_n hj), by intro j hj; first | rfl | exact upd_n hj | exact (upd_n hj).trans (upd_n hj), fun _ _ => rfl, fun _ _ => rfl⟩⟩
              · replace mq57 := mq57.symm
                subst mq57
                try rw [z32L_9] at mk54
                have mh7 := zk_t (by decide) mh7
                obtain ⟨mu_40, mh83, mh7⟩ := zk_o1 mh7
                obtain mq84 := mb_wrongN hf mh83
                replace mq84 := mq84.symm
                subst mq84
                simp only [Option.some.injEq, Prod.mk.injEq] at mh7
                obtain ⟨rfl, rfl, rfl, rfl, rfl⟩ := mh7
                replace k := zk_o3 k
                obtain ⟨mr_54, mu_55, mu_56, mh85, k⟩ := k
                obtain ⟨mq86, mq87, mq88⟩ := mb_takesP (ck10).1 mh85
                replace mq86 := mq86.symm
                subst mq86
                replace mq87 := mq87.symm
                subst mq87
                replace mq88 := mq88.symm
                subst mq88
                replace k := zk_t (by decide) k
                subst me10
                subst me12
                replace k := Option.some.inj k
                rw [← k]
                first | (exfalso; omega) | exact Or.inl ⟨(ck10).1, rfl, ⟨by intro j hj; first | rfl | exact upd_n hj | exact (upd_n hj).trans (upd_n hj), by intro j hj; first | rfl | exact upd_n hj | exact (upd_n hj).trans (upd_n hj), by intro j hj; first | rfl | exact upd_n hj | exact (upd_n hj).trans (upd_n hj), by intro j hj; first | rfl | exact upd_n hj | exact (upd_n hj).trans (upd_n hj), by intro j hj; first | rfl | exact upd_n hj | exact (upd_n hj).trans (upd_n hj), by intro j hj; first | rfl | exact upd_n hj | exact (upd_n hj).trans (upd_n hj), by intro j hj; first | rfl | exact upd_n hj | exact (upd_n hj).trans (upd_n hj), by intro j hj; first | rfl | exact upd_n hj | exact (upd_n hj).trans (upd_n hj), fun _ _ => rfl, fun _ _ => rfl⟩⟩
          · exact (mk2 ck2).elim
        · replace h := zk_f cc26 h
          have cc26n := cc26
          (try simp only [i32_lt, i32_le, i32_e, z32_0, z32_1] at cc26n)
          by_cases cc35 : su_askedCount < (nmv ts tb 1 ((at_ + 1) + 1))
          · replace h := zk_t cc35 h
            have cc35n := cc35
            (try simp only [i32_lt, i32_le, i32_e, z32_0, z32_1] at cc35n)
            unfold B_X8_readEnding_54 at h
            unfold B_X8_readEnding_55 at h
            replace h := zk_o1 h
            obtain ⟨cu_27, ch36, h⟩ := h
            obtain cq37 := cb_judge0N hf ch36
            replace cq37 := cq37.symm
            subst cq37
            unfold B_X8_readEnding_123 at h
            replace h := zk_o2 h
            obtain ⟨cr_33, cu_34, ch38, h⟩ := h
            obtain ⟨cq39, cq40⟩ := cb_acceptP (ck10).1 ch38
            replace cq39 := cq39.symm
            subst cq39
            replace cq40 := cq40.symm
            subst cq40
            replace h := zk_t (by decide) h
            unfold B_X8_readEnding_138 at h
            replace h := zk_t (by decide) h
            replace h := zk_o2 h
            obtain ⟨cu_38, cu_39, ch41, h⟩ := h
            obtain ⟨cq42, cq43⟩ := cb_expectP (ck10).1 ch41
            replace cq42 := cq42.symm
            subst cq42
            replace cq43 := cq43.symm
            subst cq43
            simp only [Option.some.injEq, Prod.mk.injEq] at h
            obtain ⟨rfl, rfl, rfl, rfl, rfl, rfl⟩ := h
            replace k := zk_o3 k
            obtain ⟨mr_43, mu_44, mu_45, mh89, k⟩ := k
            rcases mb_takesN (n := 61) hT hR hf hp (by decide) mh89 with ⟨mk90, mq92, mq93, mq94, mk91⟩ | ⟨mk90, _, _, _⟩
            · replace mq92 := mq92.symm
              subst mq92
              replace mq93 := mq93.symm
              subst mq93
              replace mq94 := mq94.symm
              subst mq94
              have mk91a := mk91.1
              replace k := zk_f (by decide) k
              replace k := zk_o5 k
              obtain ⟨mu_48, mu_49, mu_50, mu_51, mu_52, mh95, k⟩ := k
              unfold f_X12_readEnding at mh95
              unfold B_X12_readEnding_0 at mh95
              obtain ⟨mr_1, mu_2, mh96, mh95⟩ := zk_o2 mh95
              obtain mk97 := mb_look hT hR mk91 mh96
              have mh95 := zk_f (fun z => absurd ((BR_E (n := 109) mk97 (by decide)).mp z) (by omega)) mh95
              have mh95 := zk_f (fun z => absurd ((BR_E (n := 102) mk97 (by decide)).mp z) (by omega)) mh95
              have mh95 := zk_f (fun z => absurd ((BR_E (n := 97) mk97 (by decide)).mp z) (by omega)) mh95
              have mh95 := zk_f (fun z => absurd ((BR_E (n := 100) mk97 (by decide)).mp z) (by omega)) mh95
              have mh95 := zk_t ((BR_E (n := 112) mk97 (by decide)).mpr (by omega)) mh95
              unfold B_X12_readEnding_40 at mh95
              have mh95 := zk_f (fun z => absurd ((BR_E (n := 109) mk97 (by decide)).mp z) (by omega)) mh95
              have mh95 := zk_f (fun z => absurd ((BR_E (n := 102) mk97 (by decide)).mp z) (by omega)) mh95
              have mh95 := zk_f (fun z => absurd ((BR_E (n := 97) mk97 (by decide)).mp z) (by omega)) mh95
              have mh95 := zk_f (fun z => absurd ((BR_E (n := 100) mk97 (by decide)).mp z) (by omega)) mh95
              unfold B_X12_readEnding_87 at mh95
              rw [hq] at mh95
              obtain ⟨_, mh95⟩ := zk_gd mh95
              obtain ⟨mf_16, me98, mh95⟩ := zk_lt mh95
              obtain ⟨_, mh95⟩ := zk_gd mh95
              obtain ⟨mv_18, me99, mh95⟩ := zk_lt mh95
              replace me99 := me99.symm
              subst me99
              obtain ⟨_, mh95⟩ := zk_gd mh95
              obtain ⟨mf_20, me100, mh95⟩ := zk_lt mh95
              obtain ⟨mv_21, me101, mh95⟩ := zk_lt mh95
              subst me101
              have mh95 := zk_t ((BR_E (n := 112) mk97 (by decide)).mpr (by omega)) mh95
              obtain ⟨mr_23, mu_24, mh102, mh95⟩ := zk_o2 mh95
              obtain mk103 := mb_look hT hR ck10 mh102
              obtain ⟨_, mh95⟩ := zk_gd mh95
              by_cases mc104 : (9 : Int32) ≤ su_askedCount
              · have mh95 := zk_t mc104 mh95
                have mc104n := mc104
                (try simp only [i32_lt, i32_le, i32_e, z32_0, z32_1, z32L_9] at mc104n)
                unfold B_X12_readEnding_146 at mh95
                obtain ⟨mr_29, mu_30, mh105, mh95⟩ := zk_o2 mh95
                rcases mb_first mk103 (by decide) mh105 with ⟨mq108, mk106, mk107⟩ | ⟨mq109, mk106⟩
                · replace mq108 := mq108.symm
                  subst mq108
                  try rw [z32L_9] at mk107
                  have mh95 := zk_f (by decide) mh95
                  obtain ⟨mr_33, mu_34, mh110, mh95⟩ := zk_o2 mh95
                  obtain mk111 := mb_look hT hR ck10 mh110
                  obtain ⟨mv_36, me112, mh95⟩ := zk_lt mh95
                  subst me112
                  obtain ⟨_, mh95⟩ := zk_gd mh95
                  obtain ⟨mf_38, me113, mh95⟩ := zk_lt mh95
                  obtain ⟨mv_39, me114, mh95⟩ := zk_lt mh95
                  subst me114
                  unfold B_X12_readEnding_180 at mh95
                  obtain ⟨mr_42, mu_43, mh115, mh95⟩ := zk_o2 mh95
                  obtain mk116 := mb_look hT hR ck17 mh115
                  by_cases mc117 : mr_42 = (119 : Int32)
                  · have mh95 := zk_t mc117 mh95
                    have mc117n := (BR_E (n := 119) mk116 (by decide)).mp mc117
                    unfold B_X12_readEnding_203 at mh95
                    obtain ⟨mr_52, mu_53, mh118, mh95⟩ := zk_o2 mh95
                    obtain mk119 := mb_look hT hR ck17 mh118
                    have mh95 := zk_t ((BR_E (n := 119) mk119 (by decide)).mpr (by omega)) mh95
                    unfold B_X12_readEnding_222 at mh95
                    obtain ⟨_, mh95⟩ := zk_gd mh95
                    obtain ⟨mf_57, me120, mh95⟩ := zk_lt mh95
                    obtain ⟨mv_58, me121, mh95⟩ := zk_lt mh95
                    subst me121
                    simp only [Option.some.injEq, Prod.mk.injEq] at mh95
                    obtain ⟨rfl, rfl, rfl, rfl, rfl⟩ := mh95
                    subst me98
                    subst me100
                    subst me113
                    subst me120
                    exfalso; omega
                  · have mh95 := zk_f mc117 mh95
                    have mc117n := (fun z => mc117 ((BR_E (n := 119) mk116 (by decide)).mpr z))
                    obtain ⟨mr_46, mu_47, mh122, mh95⟩ := zk_o2 mh95
                    obtain mk123 := mb_look hT hR ck17 mh122
                    by_cases mc124 : mr_46 = (108 : Int32)
                    · have mh95 := zk_t mc124 mh95
                      have mc124n := (BR_E (n := 108) mk123 (by decide)).mp mc124
                      unfold B_X12_readEnding_203 at mh95
                      obtain ⟨mr_52, mu_53, mh125, mh95⟩ := zk_o2 mh95
                      obtain mk126 := mb_look hT hR ck17 mh125
                      have mh95 := zk_f (fun z => absurd ((BR_E (n := 119) mk126 (by decide)).mp z) (by omega)) mh95
                      unfold B_X12_readEnding_222 at mh95
                      obtain ⟨_, mh95⟩ := zk_gd mh95
                      obtain ⟨mf_57, me127, mh95⟩ := zk_lt mh95
                      obtain ⟨mv_58, me128, mh95⟩ := zk_lt mh95
                      subst me128
                      simp only [Option.some.injEq, Prod.mk.injEq] at mh95
                      obtain ⟨rfl, rfl, rfl, rfl, rfl⟩ := mh95
                      subst me98
                      subst me100
                      subst me113
                      subst me127
                      exfalso; omega
                    · have mh95 := zk_f mc124 mh95
                      have mc124n := (fun z => mc124 ((BR_E (n := 108) mk123 (by decide)).mpr z))
                      obtain ⟨mu_50, mh129, mh95⟩ := zk_o1 mh95
                      obtain mq130 := mb_wrongN hf mh129
                      replace mq130 := mq130.symm
                      subst mq130
                      simp only [Option.some.injEq, Prod.mk.injEq] at mh95
                      obtain ⟨rfl, rfl, rfl, rfl, rfl⟩ := mh95
                      replace k := zk_o3 k
                      obtain ⟨mr_54, mu_55, mu_56, mh131, k⟩ := k
                      obtain ⟨mq132, mq133, mq134⟩ := mb_takesP (ck17).1 mh131
                      replace mq132 := mq132.symm
                      subst mq132
                      replace mq133 := mq133.symm
                      subst mq133
                      replace mq134 := mq134.symm
                      subst mq134
                      replace k := zk_t (by decide) k
                      subst me98
                      subst me100
                      subst me113
                      replace k := Option.some.inj k
                      rw [← k]
                      first | (exfalso; omega) | exact Or.inl ⟨(ck10).1, rfl, ⟨by intro j hj; first | rfl | exact upd_n hj | exact (upd_n hj).trans (upd_n hj), by intro j hj; first | rfl | exact upd_n hj | exact (upd_n hj).trans (upd_n hj), by intro j hj; first | rfl | exact upd_n hj | exact (upd_n hj).trans (upd_n hj), by intro j hj; first | rfl | exact upd_n hj | exact (upd_n hj).trans (upd_n hj), by intro j hj; first | rfl | exact upd_n hj | exact (upd_n hj).trans (upd_n hj), by intro j hj; first | rfl | exact upd_n hj | exact (upd_n hj).trans (upd_n hj), by intro j hj; first | rfl | exact upd_n hj | exact (upd_n hj).trans (upd_n hj), by intro j hj; first | rfl | exact upd_n hj | exact (upd_n hj).trans (upd_n hj), fun _ _ => rfl, fun _ _ => rfl⟩⟩
                · replace mq109 := mq109.symm
                  subst mq109
                  try rw [z32L_9] at mk106
                  have mh95 := zk_t (by decide) mh95
                  obtain ⟨mu_40, mh135, mh95⟩ := zk_o1 mh95
                  obtain mq136 := mb_wrongN hf mh135
                  replace mq136 := mq136.symm
                  subst mq136
                  simp only [Option.some.injEq, Prod.mk.injEq] at mh95
                  obtain ⟨rfl, rfl, rfl, rfl, rfl⟩ := mh95
                  replace k := zk_o3 k
                  obtain ⟨mr_54, mu_55, mu_56, mh137, k⟩ := k
                  obtain ⟨mq138, mq139, mq140⟩ := mb_takesP (ck10).1 mh137
                  replace mq138 := mq138.symm
                  subst mq138
                  replace mq139 := mq139.symm
                  subst mq139
                  replace mq140 := mq140.symm
                  subst mq140
                  replace k := zk_t (by decide) k
                  subst me98
                  subst me100
                  replace k := Option.some.inj k
                  rw [← k]
                  first | (exfalso; omega) | exact Or.inl ⟨(ck10).1, rfl, ⟨by intro j hj; first | rfl | exact upd_n hj | exact (upd_n hj).trans (upd_n hj), by intro j hj; first | rfl | exact upd_n hj | exact (upd_n hj).trans (upd_n hj), by intro j hj; first | rfl | exact upd_n hj | exact (upd_n hj).trans (upd_n hj), by intro j hj; first | rfl | exact upd_n hj | exact (upd_n hj).trans (upd_n hj), by intro j hj; first | rfl | exact upd_n hj | exact (upd_n hj).trans (upd_n hj), by intro j hj; first | rfl | exact upd_n hj | exact (upd_n hj).trans (upd_n hj), by intro j hj; first | rfl | exact upd_n hj | exact (upd_n hj).trans (upd_n hj), by intro j hj; first | rfl | exact upd_n hj | exact (upd_n hj).trans (upd_n hj), fun _ _ => rfl, fun _ _ => rfl⟩⟩
              · have mh95 := zk_f mc104 mh95
                have mc104n := mc104
                (try simp only [i32_lt, i32_le, i32_e, z32_0, z32_1, z32L_9] at mc104n)
                obtain ⟨_, mh95⟩ := zk_gd mh95
                unfold B_X12_readEnding_146 at mh95
                obtain ⟨mr_29, mu_30, mh141, mh95⟩ := zk_o2 mh95
                rcases mb_first mk103 (by omega) mh141 with ⟨mq144, mk142, mk143⟩ | ⟨mq145, mk142⟩
                · replace mq144 := mq144.symm
                  subst mq144
                  try rw [z32L_9] at mk143
                  have mh95 := zk_f (by decide) mh95
                  obtain ⟨mr_33, mu_34, mh146, mh95⟩ := zk_o2 mh95
                  obtain mk147 := mb_look hT hR ck10 mh146
                  obtain ⟨mv_36, me148, mh95⟩ := zk_lt mh95
                  subst me148
                  obtain ⟨_, mh95⟩ := zk_gd mh95
                  obtain ⟨mf_38, me149, mh95⟩ := zk_lt mh95
                  obtain ⟨mv_39, me150, mh95⟩ := zk_lt mh95
                  subst me150
                  unfold B_X12_readEnding_180 at mh95
                  obtain ⟨mr_42, mu_43, mh151, mh95⟩ := zk_o2 mh95
                  obtain mk152 := mb_look hT hR ck17 mh151
                  by_cases mc153 : mr_42 = (119 : Int32)
                  · have mh95 := zk_t mc153 mh95
                    have mc153n := (BR_E (n := 119) mk152 (by decide)).mp mc153
                    unfold B_X12_readEnding_203 at mh95
                    obtain ⟨mr_52, mu_53, mh154, mh95⟩ := zk_o2 mh95
                    obtain mk155 := mb_look hT hR ck17 mh154
                    have mh95 := zk_t ((BR_E (n := 119) mk155 (by decide)).mpr (by omega)) mh95
                    unfold B_X12_readEnding_222 at mh95
                    obtain ⟨_, mh95⟩ := zk_gd mh95
                    obtain ⟨mf_57, me156, mh95⟩ := zk_lt mh95
                    obtain ⟨mv_58, me157, mh95⟩ := zk_lt mh95
                    subst me157
                    simp only [Option.some.injEq, Prod.mk.injEq] at mh95
                    obtain ⟨rfl, rfl, rfl, rfl, rfl⟩ := mh95
                    subst me98
                    subst me100
                    subst me149
                    subst me156
                    exfalso; omega
                  · have mh95 := zk_f mc153 mh95
                    have mc153n := (fun z => mc153 ((BR_E (n := 119) mk152 (by decide)).mpr z))
                    obtain ⟨mr_46, mu_47, mh158, mh95⟩ := zk_o2 mh95
                    obtain mk159 := mb_look hT hR ck17 mh158
                    by_cases mc160 : mr_46 = (108 : Int32)
                    · have mh95 := zk_t mc160 mh95
                      have mc160n := (BR_E (n := 108) mk159 (by decide)).mp mc160
                      unfold B_X12_readEnding_203 at mh95
                      obtain ⟨mr_52, mu_53, mh161, mh95⟩ := zk_o2 mh95
                      obtain mk162 := mb_look hT hR ck17 mh161
                      have mh95 := zk_f (fun z => absurd ((BR_E (n := 119) mk162 (by decide)).mp z) (by omega)) mh95
                      unfold B_X12_readEnding_222 at mh95
                      obtain ⟨_, mh95⟩ := zk_gd mh95
                      obtain ⟨mf_57, me163, mh95⟩ := zk_lt mh95
                      obtain ⟨mv_58, me164, mh95⟩ := zk_lt mh95
                      subst me164
                      simp only [Option.some.injEq, Prod.mk.injEq] at mh95
                      obtain ⟨rfl, rfl, rfl, rfl, rfl⟩ := mh95
                      subst me98
                      subst me100
                      subst me149
                      subst me163
                      exfalso; omega
                    · have mh95 := zk_f mc160 mh95
                      have mc160n := (fun z => mc160 ((BR_E (n := 108) mk159 (by decide)).mpr z))
                      obtain ⟨mu_50, mh165, mh95⟩ := zk_o1 mh95
                      obtain mq166 := mb_wrongN hf mh165
                      replace mq166 := mq166.symm
                      subst mq166
                      simp only [Option.some.injEq, Prod.mk.injEq] at mh95
                      obtain ⟨rfl, rfl, rfl, rfl, rfl⟩ := mh95
                      replace k := zk_o3 k
                      obtain ⟨mr_54, mu_55, mu_56, mh167, k⟩ := k
                      obtain ⟨mq168, mq169, mq170⟩ := mb_takesP (ck17).1 mh167
                      replace mq168 := mq168.symm
                      subst mq168
                      replace mq169 := mq169.symm
                      subst mq169
                      replace mq170 := mq170.symm
                      subst mq170
                      replace k := zk_t (by decide) k
                      subst me98
                      subst me100
                      subst me149
                      replace k := Option.some.inj k
                      rw [← k]
                      first | (exfalso; omega) | exact Or.inl ⟨(ck10).1, rfl, ⟨by intro j hj; first | rfl | exact upd_n hj | exact (upd_n hj).trans (upd_n hj), by intro j hj; first | rfl | exact upd_n hj | exact (upd_n hj).trans (upd_n hj), by intro j hj; first | rfl | exact upd_n hj | exact (upd_n hj).trans (upd_n hj), by intro j hj; first | rfl | exact upd_n hj | exact (upd_n hj).trans (upd_n hj), by intro j hj; first | rfl | exact upd_n hj | exact (upd_n hj).trans (upd_n hj), by intro j hj; first | rfl | exact upd_n hj | exact (upd_n hj).trans (upd_n hj), by intro j hj; first | rfl | exact upd_n hj | exact (upd_n hj).trans (upd_n hj), by intro j hj; first | rfl | exact upd_n hj | exact (upd_n hj).trans (upd_n hj), fun _ _ => rfl, fun _ _ => rfl⟩⟩
                · replace mq145 := mq145.symm
                  subst mq145
                  try rw [z32L_9] at mk142
                  have mh95 := zk_t (by decide) mh95
                  obtain ⟨mu_40, mh171, mh95⟩ := zk_o1 mh95
                  obtain mq172 := mb_wrongN hf mh171
                  replace mq172 := mq172.symm
                  subst mq172
                  simp only [Option.some.injEq, Prod.mk.injEq] at mh95
                  obtain ⟨rfl, rfl, rfl, rfl, rfl⟩ := mh95
                  replace k := zk_o3 k
                  obtain ⟨mr_54, mu_55, mu_56, mh173, k⟩ := k
                  obtain ⟨mq174, mq175, mq176⟩ := mb_takesP (ck10).1 mh173
                  replace mq174 := mq174.symm
                  subst mq174
                  replace mq175 := mq175.symm
                  subst mq175
                  replace mq176 := mq176.symm
                  subst mq176
                  replace k := zk_t (by decide) k
                  subst me98
                  subst me100
                  replace k := Option.some.inj k
                  rw [← k]
                  first | (exfalso; omega) | exact Or.inl ⟨(ck10).1, rfl, ⟨by intro j hj; first | rfl | exact upd_n hj | exact (upd_n hj).trans (upd_n hj), by intro j hj; first | rfl | exact upd_n hj | exact (upd_n hj).trans (upd_n hj), by intro j hj; first | rfl | exact upd_n hj | exact (upd_n hj).trans (upd_n hj), by intro j hj; first | rfl | exact upd_n hj | exact (upd_n hj).trans (upd_n hj), by intro j hj; first | rfl | exact upd_n hj | exact (upd_n hj).trans (upd_n hj), by intro j hj; first | rfl | exact upd_n hj | exact (upd_n hj).trans (upd_n hj), by intro j hj; first | rfl | exact upd_n hj | exact (upd_n hj).trans (upd_n hj), by intro j hj; first | rfl | exact upd_n hj | exact (upd_n hj).trans (upd_n hj), fun _ _ => rfl, fun _ _ => rfl⟩⟩
            · exact (mk90 ck2).elim
          · replace h := zk_f cc35 h
            have cc35n := cc35
            (try simp only [i32_lt, i32_le, i32_e, z32_0, z32_1] at cc35n)
            unfold B_X8_readEnding_55 at h
            replace h := zk_o1 h
            obtain ⟨cu_27, ch44, h⟩ := h
            obtain cq45 := cb_judge1 ch44
            replace cq45 := cq45.symm
            subst cq45
            unfold B_X8_readEnding_123 at h
            replace h := zk_o2 h
            obtain ⟨cr_33, cu_34, ch46, h⟩ := h
            rcases cb_acceptN (n := 119) hT hf ck17 (by decide) ch46 with ⟨ck47, cq49, cq50, ck48⟩ | ⟨ck47, cq51, cq52⟩
            · replace cq49 := cq49.symm
              subst cq49
              replace cq50 := cq50.symm
              subst cq50
              have ck48a := ck48.1
              replace h := zk_f (by decide) h
              unfold B_X8_readEnding_138 at h
              replace h := zk_f (by decide) h
              simp only [Option.some.injEq, Prod.mk.injEq] at h
              obtain ⟨rfl, rfl, rfl, rfl, rfl, rfl⟩ := h
              replace k := zk_o3 k
              obtain ⟨mr_43, mu_44, mu_45, mh177, k⟩ := k
              rcases mb_takesN (n := 61) hT hR hf hp (by decide) mh177 with ⟨mk178, mq180, mq181, mq182, mk179⟩ | ⟨mk178, _, _, _⟩
              · replace mq180 := mq180.symm
                subst mq180
                replace mq181 := mq181.symm
                subst mq181
                replace mq182 := mq182.symm
                subst mq182
                have mk179a := mk179.1
                replace k := zk_f (by decide) k
                replace k := zk_o5 k
                obtain ⟨mu_48, mu_49, mu_50, mu_51, mu_52, mh183, k⟩ := k
                unfold f_X12_readEnding at mh183
                unfold B_X12_readEnding_0 at mh183
                obtain ⟨mr_1, mu_2, mh184, mh183⟩ := zk_o2 mh183
                obtain mk185 := mb_look hT hR mk179 mh184
                have mh183 := zk_f (fun z => absurd ((BR_E (n := 109) mk185 (by decide)).mp z) (by omega)) mh183
                have mh183 := zk_f (fun z => absurd ((BR_E (n := 102) mk185 (by decide)).mp z) (by omega)) mh183
                have mh183 := zk_f (fun z => absurd ((BR_E (n := 97) mk185 (by decide)).mp z) (by omega)) mh183
                have mh183 := zk_f (fun z => absurd ((BR_E (n := 100) mk185 (by decide)).mp z) (by omega)) mh183
                have mh183 := zk_t ((BR_E (n := 112) mk185 (by decide)).mpr (by omega)) mh183
                unfold B_X12_readEnding_40 at mh183
                have mh183 := zk_f (fun z => absurd ((BR_E (n := 109) mk185 (by decide)).mp z) (by omega)) mh183
                have mh183 := zk_f (fun z => absurd ((BR_E (n := 102) mk185 (by decide)).mp z) (by omega)) mh183
                have mh183 := zk_f (fun z => absurd ((BR_E (n := 97) mk185 (by decide)).mp z) (by omega)) mh183
                have mh183 := zk_f (fun z => absurd ((BR_E (n := 100) mk185 (by decide)).mp z) (by omega)) mh183
                unfold B_X12_readEnding_87 at mh183
                rw [hq] at mh183
                obtain ⟨_, mh183⟩ := zk_gd mh183
                obtain ⟨mf_16, me186, mh183⟩ := zk_lt mh183
                obtain ⟨_, mh183⟩ := zk_gd mh183
                obtain ⟨mv_18, me187, mh183⟩ := zk_lt mh183
                replace me187 := me187.symm
                subst me187
                obtain ⟨_, mh183⟩ := zk_gd mh183
                obtain ⟨mf_20, me188, mh183⟩ := zk_lt mh183
                obtain ⟨mv_21, me189, mh183⟩ := zk_lt mh183
                subst me189
                have mh183 := zk_t ((BR_E (n := 112) mk185 (by decide)).mpr (by omega)) mh183
                obtain ⟨mr_23, mu_24, mh190, mh183⟩ := zk_o2 mh183
                obtain mk191 := mb_look hT hR ck10 mh190
                obtain ⟨_, mh183⟩ := zk_gd mh183
                by_cases mc192 : (9 : Int32) ≤ su_askedCount
                · have mh183 := zk_t mc192 mh183
                  have mc192n := mc192
                  (try simp only [i32_lt, i32_le, i32_e, z32_0, z32_1, z32L_9] at mc192n)
                  unfold B_X12_readEnding_146 at mh183
                  obtain ⟨mr_29, mu_30, mh193, mh183⟩ := zk_o2 mh183
                  rcases mb_first mk191 (by decide) mh193 with ⟨mq196, mk194, mk195⟩ | ⟨mq197, mk194⟩
                  · replace mq196 := mq196.symm
                    subst mq196
                    try rw [z32L_9] at mk195
                    have mh183 := zk_f (by decide) mh183
                    obtain ⟨mr_33, mu_34, mh198, mh183⟩ := zk_o2 mh183
                    obtain mk199 := mb_look hT hR ck10 mh198
                    obtain ⟨mv_36, me200, mh183⟩ := zk_lt mh183
                    subst me200
                    obtain ⟨_, mh183⟩ := zk_gd mh183
                    obtain ⟨mf_38, me201, mh183⟩ := zk_lt mh183
                    obtain ⟨mv_39, me202, mh183⟩ := zk_lt mh183
                    subst me202
                    unfold B_X12_readEnding_180 at mh183
                    obtain ⟨mr_42, mu_43, mh203, mh183⟩ := zk_o2 mh183
                    obtain mk204 := mb_look hT hR ck17 mh203
                    have mh183 := zk_t ((BR_E (n := 119) mk204 (by decide)).mpr (by omega)) mh183
                    unfold B_X12_readEnding_203 at mh183
                    obtain ⟨mr_52, mu_53, mh205, mh183⟩ := zk_o2 mh183
                    obtain mk206 := mb_look hT hR ck17 mh205
                    have mh183 := zk_t ((BR_E (n := 119) mk206 (by decide)).mpr (by omega)) mh183
                    unfold B_X12_readEnding_222 at mh183
                    obtain ⟨_, mh183⟩ := zk_gd mh183
                    obtain ⟨mf_57, me207, mh183⟩ := zk_lt mh183
                    obtain ⟨mv_58, me208, mh183⟩ := zk_lt mh183
                    subst me208
                    simp only [Option.some.injEq, Prod.mk.injEq] at mh183
                    obtain ⟨rfl, rfl, rfl, rfl, rfl⟩ := mh183
                    subst me186
                    subst me188
                    subst me201
                    subst me207
                    first | (exfalso; omega) | (refine Or.inr ⟨rfl, ck48, by first | decide | omega, by first | decide | omega, _, by first | exact ⟨fun z => absurd z (by decide), fun _ => rfl⟩ | exact ⟨fun _ => by rw [(nm_digit (ts := ts) (tb := tb) (a := ((at_ + 1) + (1 : Int32))) (by omega)).1, BR_v mk191 (by have hbz : bZ ts tb ((at_ + 1) + (1 : Int32)) = (bz ts tb ((at_ + 1) + (1 : Int32))).toInt := rfl; omega)], fun z => absurd rfl z⟩ | exact ⟨fun _ => by rw [(nm_digit (ts := ts) (tb := tb) (a := ((at_ + 1) + (1 : Int32))) (by omega)).1, BR_v mk199 (by have hbz : bZ ts tb ((at_ + 1) + (1 : Int32)) = (bz ts tb ((at_ + 1) + (1 : Int32))).toInt := rfl; omega)], fun z => absurd rfl z⟩, k⟩)
                  · replace mq197 := mq197.symm
                    subst mq197
                    try rw [z32L_9] at mk194
                    have mh183 := zk_t (by decide) mh183
                    obtain ⟨mu_40, mh209, mh183⟩ := zk_o1 mh183
                    obtain mq210 := mb_wrongN hf mh209
                    replace mq210 := mq210.symm
                    subst mq210
                    simp only [Option.some.injEq, Prod.mk.injEq] at mh183
                    obtain ⟨rfl, rfl, rfl, rfl, rfl⟩ := mh183
                    replace k := zk_o3 k
                    obtain ⟨mr_54, mu_55, mu_56, mh211, k⟩ := k
                    obtain ⟨mq212, mq213, mq214⟩ := mb_takesP (ck10).1 mh211
                    replace mq212 := mq212.symm
                    subst mq212
                    replace mq213 := mq213.symm
                    subst mq213
                    replace mq214 := mq214.symm
                    subst mq214
                    replace k := zk_t (by decide) k
                    subst me186
                    subst me188
                    replace k := Option.some.inj k
                    rw [← k]
                    first | (exfalso; omega) | exact Or.inl ⟨by omega, rfl, ⟨by intro j hj; first | rfl | exact upd_n hj | exact (upd_n hj).trans (upd_n hj), by intro j hj; first | rfl | exact upd_n hj | exact (upd_n hj).trans (upd_n hj), by intro j hj; first | rfl | exact upd_n hj | exact (upd_n hj).trans (upd_n hj), by intro j hj; first | rfl | exact upd_n hj | exact (upd_n hj).trans (upd_n hj), by intro j hj; first | rfl | exact upd_n hj | exact (upd_n hj).trans (upd_n hj), by intro j hj; first | rfl | exact upd_n hj | exact (upd_n hj).trans (upd_n hj), by intro j hj; first | rfl | exact upd_n hj | exact (upd_n hj).trans (upd_n hj), by intro j hj; first | rfl | exact upd_n hj | exact (upd_n hj).trans (upd_n hj), fun _ _ => rfl, fun _ _ => rfl⟩⟩
                · have mh183 := zk_f mc192 mh183
                  have mc192n := mc192
                  (try simp only [i32_lt, i32_le, i32_e, z32_0, z32_1, z32L_9] at mc192n)
                  obtain ⟨_, mh183⟩ := zk_gd mh183
                  unfold B_X12_readEnding_146 at mh183
                  obtain ⟨mr_29, mu_30, mh215, mh183⟩ := zk_o2 mh183
                  rcases mb_first mk191 (by omega) mh215 with ⟨mq218, mk216, mk217⟩ | ⟨mq219, mk216⟩
                  · replace mq218 := mq218.symm
                    subst mq218
                    try rw [z32L_9] at mk217
                    have mh183 := zk_f (by decide) mh183
                    obtain ⟨mr_33, mu_34, mh220, mh183⟩ := zk_o2 mh183
                    obtain mk221 := mb_look hT hR ck10 mh220
                    obtain ⟨mv_36, me222, mh183⟩ := zk_lt mh183
                    subst me222
                    obtain ⟨_, mh183⟩ := zk_gd mh183
                    obtain ⟨mf_38, me223, mh183⟩ := zk_lt mh183
                    obtain ⟨mv_39, me224, mh183⟩ := zk_lt mh183
                    subst me224
                    unfold B_X12_readEnding_180 at mh183
                    obtain ⟨mr_42, mu_43, mh225, mh183⟩ := zk_o2 mh183
                    obtain mk226 := mb_look hT hR ck17 mh225
                    have mh183 := zk_t ((BR_E (n := 119) mk226 (by decide)).mpr (by omega)) mh183
                    unfold B_X12_readEnding_203 at mh183
                    obtain ⟨mr_52, mu_53, mh227, mh183⟩ := zk_o2 mh183
                    obtain mk228 := mb_look hT hR ck17 mh227
                    have mh183 := zk_t ((BR_E (n := 119) mk228 (by decide)).mpr (by omega)) mh183
                    unfold B_X12_readEnding_222 at mh183
                    obtain ⟨_, mh183⟩ := zk_gd mh183
                    obtain ⟨mf_57, me229, mh183⟩ := zk_lt mh183
                    obtain ⟨mv_58, me230, mh183⟩ := zk_lt mh183
                    subst me230
                    simp only [Option.some.injEq, Prod.mk.injEq] at mh183
                    obtain ⟨rfl, rfl, rfl, rfl, rfl⟩ := mh183
                    subst me186
                    subst me188
                    subst me223
                    subst me229
                    first | (exfalso; omega) | (refine Or.inr ⟨rfl, ck48, by first | decide | omega, by first | decide | omega, _, by first | exact ⟨fun z => absurd z (by decide), fun _ => rfl⟩ | exact ⟨fun _ => by rw [(nm_digit (ts := ts) (tb := tb) (a := ((at_ + 1) + (1 : Int32))) (by omega)).1, BR_v mk191 (by have hbz : bZ ts tb ((at_ + 1) + (1 : Int32)) = (bz ts tb ((at_ + 1) + (1 : Int32))).toInt := rfl; omega)], fun z => absurd rfl z⟩ | exact ⟨fun _ => by rw [(nm_digit (ts := ts) (tb := tb) (a := ((at_ + 1) + (1 : Int32))) (by omega)).1, BR_v mk221 (by have hbz : bZ ts tb ((at_ + 1) + (1 : Int32)) = (bz ts tb ((at_ + 1) + (1 : Int32))).toInt := rfl; omega)], fun z => absurd rfl z⟩, k⟩)
                  · replace mq219 := mq219.symm
                    subst mq219
                    try rw [z32L_9] at mk216
                    have mh183 := zk_t (by decide) mh183
                    obtain ⟨mu_40, mh231, mh183⟩ := zk_o1 mh183
                    obtain mq232 := mb_wrongN hf mh231
                    replace mq232 := mq232.symm
                    subst mq232
                    simp only [Option.some.injEq, Prod.mk.injEq] at mh183
                    obtain ⟨rfl, rfl, rfl, rfl, rfl⟩ := mh183
                    replace k := zk_o3 k
                    obtain ⟨mr_54, mu_55, mu_56, mh233, k⟩ := k
                    obtain ⟨mq234, mq235, mq236⟩ := mb_takesP (ck10).1 mh233
                    replace mq234 := mq234.symm
                    subst mq234
                    replace mq235 := mq235.symm
                    subst mq235
                    replace mq236 := mq236.symm
                    subst mq236
                    replace k := zk_t (by decide) k
                    subst me186
                    subst me188
                    replace k := Option.some.inj k
                    rw [← k]
                    first | (exfalso; omega) | exact Or.inl ⟨by omega, rfl, ⟨by intro j hj; first | rfl | exact upd_n hj | exact (upd_n hj).trans (upd_n hj), by intro j hj; first | rfl | exact upd_n hj | exact (upd_n hj).trans (upd_n hj), by intro j hj; first | rfl | exact upd_n hj | exact (upd_n hj).trans (upd_n hj), by intro j hj; first | rfl | exact upd_n hj | exact (upd_n hj).trans (upd_n hj), by intro j hj; first | rfl | exact upd_n hj | exact (upd_n hj).trans (upd_n hj), by intro j hj; first | rfl | exact upd_n hj | exact (upd_n hj).trans (upd_n hj), by intro j hj; first | rfl | exact upd_n hj | exact (upd_n hj).trans (upd_n hj), by intro j hj; first | rfl | exact upd_n hj | exact (upd_n hj).trans (upd_n hj), fun _ _ => rfl, fun _ _ => rfl⟩⟩
              · exact (mk178 ck2).elim
            · replace cq51 := cq51.symm
              subst cq51
              replace cq52 := cq52.symm
              subst cq52
              replace h := zk_t (by decide) h
              unfold B_X8_readEnding_138 at h
              replace h := zk_t (by decide) h
              replace h := zk_o2 h
              obtain ⟨cu_38, cu_39, ch53, h⟩ := h
              rcases cb_expectN (n := 108) hT hf ck17 (by decide) ch53 with ⟨ck54, cq56, cq57, ck55⟩ | ⟨ck54, cq58, cq59⟩
              · replace cq56 := cq56.symm
                subst cq56
                replace cq57 := cq57.symm
                subst cq57
                have ck55a := ck55.1
                simp only [Option.some.injEq, Prod.mk.injEq] at h
                obtain ⟨rfl, rfl, rfl, rfl, rfl, rfl⟩ := h
                replace k := zk_o3 k
                obtain ⟨mr_43, mu_44, mu_45, mh237, k⟩ := k
                rcases mb_takesN (n := 61) hT hR hf hp (by decide) mh237 with ⟨mk238, mq240, mq241, mq242, mk239⟩ | ⟨mk238, _, _, _⟩
                · replace mq240 := mq240.symm
                  subst mq240
                  replace mq241 := mq241.symm
                  subst mq241
                  replace mq242 := mq242.symm
                  subst mq242
                  have mk239a := mk239.1
                  replace k := zk_f (by decide) k
                  replace k := zk_o5 k
                  obtain ⟨mu_48, mu_49, mu_50, mu_51, mu_52, mh243, k⟩ := k
                  unfold f_X12_readEnding at mh243
                  unfold B_X12_readEnding_0 at mh243
                  obtain ⟨mr_1, mu_2, mh244, mh243⟩ := zk_o2 mh243
                  obtain mk245 := mb_look hT hR mk239 mh244
                  have mh243 := zk_f (fun z => absurd ((BR_E (n := 109) mk245 (by decide)).mp z) (by omega)) mh243
                  have mh243 := zk_f (fun z => absurd ((BR_E (n := 102) mk245 (by decide)).mp z) (by omega)) mh243
                  have mh243 := zk_f (fun z => absurd ((BR_E (n := 97) mk245 (by decide)).mp z) (by omega)) mh243
                  have mh243 := zk_f (fun z => absurd ((BR_E (n := 100) mk245 (by decide)).mp z) (by omega)) mh243
                  have mh243 := zk_t ((BR_E (n := 112) mk245 (by decide)).mpr (by omega)) mh243
                  unfold B_X12_readEnding_40 at mh243
                  have mh243 := zk_f (fun z => absurd ((BR_E (n := 109) mk245 (by decide)).mp z) (by omega)) mh243
                  have mh243 := zk_f (fun z => absurd ((BR_E (n := 102) mk245 (by decide)).mp z) (by omega)) mh243
                  have mh243 := zk_f (fun z => absurd ((BR_E (n := 97) mk245 (by decide)).mp z) (by omega)) mh243
                  have mh243 := zk_f (fun z => absurd ((BR_E (n := 100) mk245 (by decide)).mp z) (by omega)) mh243
                  unfold B_X12_readEnding_87 at mh243
                  rw [hq] at mh243
                  obtain ⟨_, mh243⟩ := zk_gd mh243
                  obtain ⟨mf_16, me246, mh243⟩ := zk_lt mh243
                  obtain ⟨_, mh243⟩ := zk_gd mh243
                  obtain ⟨mv_18, me247, mh243⟩ := zk_lt mh243
                  replace me247 := me247.symm
                  subst me247
                  obtain ⟨_, mh243⟩ := zk_gd mh243
                  obtain ⟨mf_20, me248, mh243⟩ := zk_lt mh243
                  obtain ⟨mv_21, me249, mh243⟩ := zk_lt mh243
                  subst me249
                  have mh243 := zk_t ((BR_E (n := 112) mk245 (by decide)).mpr (by omega)) mh243
                  obtain ⟨mr_23, mu_24, mh250, mh243⟩ := zk_o2 mh243
                  obtain mk251 := mb_look hT hR ck10 mh250
                  obtain ⟨_, mh243⟩ := zk_gd mh243
                  by_cases mc252 : (9 : Int32) ≤ su_askedCount
                  · have mh243 := zk_t mc252 mh243
                    have mc252n := mc252
                    (try simp only [i32_lt, i32_le, i32_e, z32_0, z32_1, z32L_9] at mc252n)
                    unfold B_X12_readEnding_146 at mh243
                    obtain ⟨mr_29, mu_30, mh253, mh243⟩ := zk_o2 mh243
                    rcases mb_first mk251 (by decide) mh253 with ⟨mq256, mk254, mk255⟩ | ⟨mq257, mk254⟩
                    · replace mq256 := mq256.symm
                      subst mq256
                      try rw [z32L_9] at mk255
                      have mh243 := zk_f (by decide) mh243
                      obtain ⟨mr_33, mu_34, mh258, mh243⟩ := zk_o2 mh243
                      obtain mk259 := mb_look hT hR ck10 mh258
                      obtain ⟨mv_36, me260, mh243⟩ := zk_lt mh243
                      subst me260
                      obtain ⟨_, mh243⟩ := zk_gd mh243
                      obtain ⟨mf_38, me261, mh243⟩ := zk_lt mh243
                      obtain ⟨mv_39, me262, mh243⟩ := zk_lt mh243
                      subst me262
                      unfold B_X12_readEnding_180 at mh243
                      obtain ⟨mr_42, mu_43, mh263, mh243⟩ := zk_o2 mh243
                      obtain mk264 := mb_look hT hR ck17 mh263
                      have mh243 := zk_f (fun z => absurd ((BR_E (n := 119) mk264 (by decide)).mp z) (by omega)) mh243
                      obtain ⟨mr_46, mu_47, mh265, mh243⟩ := zk_o2 mh243
                      obtain mk266 := mb_look hT hR ck17 mh265
                      have mh243 := zk_t ((BR_E (n := 108) mk266 (by decide)).mpr (by omega)) mh243
                      unfold B_X12_readEnding_203 at mh243
                      obtain ⟨mr_52, mu_53, mh267, mh243⟩ := zk_o2 mh243
                      obtain mk268 := mb_look hT hR ck17 mh267
                      have mh243 := zk_f (fun z => absurd ((BR_E (n := 119) mk268 (by decide)).mp z) (by omega)) mh243
                      unfold B_X12_readEnding_222 at mh243
                      obtain ⟨_, mh243⟩ := zk_gd mh243
                      obtain ⟨mf_57, me269, mh243⟩ := zk_lt mh243
                      obtain ⟨mv_58, me270, mh243⟩ := zk_lt mh243
                      subst me270
                      simp only [Option.some.injEq, Prod.mk.injEq] at mh243
                      obtain ⟨rfl, rfl, rfl, rfl, rfl⟩ := mh243
                      subst me246
                      subst me248
                      subst me261
                      subst me269
                      first | (exfalso; omega) | (refine Or.inr ⟨rfl, ck55, by first | decide | omega, by first | decide | omega, _, by first | exact ⟨fun z => absurd z (by decide), fun _ => rfl⟩ | exact ⟨fun _ => by rw [(nm_digit (ts := ts) (tb := tb) (a := ((at_ + 1) + (1 : Int32))) (by omega)).1, BR_v mk251 (by have hbz : bZ ts tb ((at_ + 1) + (1 : Int32)) = (bz ts tb ((at_ + 1) + (1 : Int32))).toInt := rfl; omega)], fun z => absurd rfl z⟩ | exact ⟨fun _ => by rw [(nm_digit (ts := ts) (tb := tb) (a := ((at_ + 1) + (1 : Int32))) (by omega)).1, BR_v mk259 (by have hbz : bZ ts tb ((at_ + 1) + (1 : Int32)) = (bz ts tb ((at_ + 1) + (1 : Int32))).toInt := rfl; omega)], fun z => absurd rfl z⟩, k⟩)
                    · replace mq257 := mq257.symm
                      subst mq257
                      try rw [z32L_9] at mk254
                      have mh243 := zk_t (by decide) mh243
                      obtain ⟨mu_40, mh271, mh243⟩ := zk_o1 mh243
                      obtain mq272 := mb_wrongN hf mh271
                      replace mq272 := mq272.symm
                      subst mq272
                      simp only [Option.some.injEq, Prod.mk.injEq] at mh243
                      obtain ⟨rfl, rfl, rfl, rfl, rfl⟩ := mh243
                      replace k := zk_o3 k
                      obtain ⟨mr_54, mu_55, mu_56, mh273, k⟩ := k
                      obtain ⟨mq274, mq275, mq276⟩ := mb_takesP (ck10).1 mh273
                      replace mq274 := mq274.symm
                      subst mq274
                      replace mq275 := mq275.symm
                      subst mq275
                      replace mq276 := mq276.symm
                      subst mq276
                      replace k := zk_t (by decide) k
                      subst me246
                      subst me248
                      replace k := Option.some.inj k
                      rw [← k]
                      first | (exfalso; omega) | exact Or.inl ⟨by omega, rfl, ⟨by intro j hj; first | rfl | exact upd_n hj | exact (upd_n hj).trans (upd_n hj), by intro j hj; first | rfl | exact upd_n hj | exact (upd_n hj).trans (upd_n hj), by intro j hj; first | rfl | exact upd_n hj | exact (upd_n hj).trans (upd_n hj), by intro j hj; first | rfl | exact upd_n hj | exact (upd_n hj).trans (upd_n hj), by intro j hj; first | rfl | exact upd_n hj | exact (upd_n hj).trans (upd_n hj), by intro j hj; first | rfl | exact upd_n hj | exact (upd_n hj).trans (upd_n hj), by intro j hj; first | rfl | exact upd_n hj | exact (upd_n hj).trans (upd_n hj), by intro j hj; first | rfl | exact upd_n hj | exact (upd_n hj).trans (upd_n hj), fun _ _ => rfl, fun _ _ => rfl⟩⟩
                  · have mh243 := zk_f mc252 mh243
                    have mc252n := mc252
                    (try simp only [i32_lt, i32_le, i32_e, z32_0, z32_1, z32L_9] at mc252n)
                    obtain ⟨_, mh243⟩ := zk_gd mh243
                    unfold B_X12_readEnding_146 at mh243
                    obtain ⟨mr_29, mu_30, mh277, mh243⟩ := zk_o2 mh243
                    rcases mb_first mk251 (by omega) mh277 with ⟨mq280, mk278, mk279⟩ | ⟨mq281, mk278⟩
                    · replace mq280 := mq280.symm
                      subst mq280
                      try rw [z32L_9] at mk279
                      have mh243 := zk_f (by decide) mh243
                      obtain ⟨mr_33, mu_34, mh282, mh243⟩ := zk_o2 mh243
                      obtain mk283 := mb_look hT hR ck10 mh282
                      obtain ⟨mv_36, me284, mh243⟩ := zk_lt mh243
                      subst me284
                      obtain ⟨_, mh243⟩ := zk_gd mh243
                      obtain ⟨mf_38, me285, mh243⟩ := zk_lt mh243
                      obtain ⟨mv_39, me286, mh243⟩ := zk_lt mh243
                      subst me286
                      unfold B_X12_readEnding_180 at mh243
                      obtain ⟨mr_42, mu_43, mh287, mh243⟩ := zk_o2 mh243
                      obtain mk288 := mb_look hT hR ck17 mh287
                      have mh243 := zk_f (fun z => absurd ((BR_E (n := 119) mk288 (by decide)).mp z) (by omega)) mh243
                      obtain ⟨mr_46, mu_47, mh289, mh243⟩ := zk_o2 mh243
                      obtain mk290 := mb_look hT hR ck17 mh289
                      have mh243 := zk_t ((BR_E (n := 108) mk290 (by decide)).mpr (by omega)) mh243
                      unfold B_X12_readEnding_203 at mh243
                      obtain ⟨mr_52, mu_53, mh291, mh243⟩ := zk_o2 mh243
                      obtain mk292 := mb_look hT hR ck17 mh291
                      have mh243 := zk_f (fun z => absurd ((BR_E (n := 119) mk292 (by decide)).mp z) (by omega)) mh243
                      unfold B_X12_readEnding_222 at mh243
                      obtain ⟨_, mh243⟩ := zk_gd mh243
                      obtain ⟨mf_57, me293, mh243⟩ := zk_lt mh243
                      obtain ⟨mv_58, me294, mh243⟩ := zk_lt mh243
                      subst me294
                      simp only [Option.some.injEq, Prod.mk.injEq] at mh243
                      obtain ⟨rfl, rfl, rfl, rfl, rfl⟩ := mh243
                      subst me246
                      subst me248
                      subst me285
                      subst me293
                      first | (exfalso; omega) | (refine Or.inr ⟨rfl, ck55, by first | decide | omega, by first | decide | omega, _, by first | exact ⟨fun z => absurd z (by decide), fun _ => rfl⟩ | exact ⟨fun _ => by rw [(nm_digit (ts := ts) (tb := tb) (a := ((at_ + 1) + (1 : Int32))) (by omega)).1, BR_v mk251 (by have hbz : bZ ts tb ((at_ + 1) + (1 : Int32)) = (bz ts tb ((at_ + 1) + (1 : Int32))).toInt := rfl; omega)], fun z => absurd rfl z⟩ | exact ⟨fun _ => by rw [(nm_digit (ts := ts) (tb := tb) (a := ((at_ + 1) + (1 : Int32))) (by omega)).1, BR_v mk283 (by have hbz : bZ ts tb ((at_ + 1) + (1 : Int32)) = (bz ts tb ((at_ + 1) + (1 : Int32))).toInt := rfl; omega)], fun z => absurd rfl z⟩, k⟩)
                    · replace mq281 := mq281.symm
                      subst mq281
                      try rw [z32L_9] at mk278
                      have mh243 := zk_t (by decide) mh243
                      obtain ⟨mu_40, mh295, mh243⟩ := zk_o1 mh243
                      obtain mq296 := mb_wrongN hf mh295
                      replace mq296 := mq296.symm
                      subst mq296
                      simp only [Option.some.injEq, Prod.mk.injEq] at mh243
                      obtain ⟨rfl, rfl, rfl, rfl, rfl⟩ := mh243
                      replace k := zk_o3 k
                      obtain ⟨mr_54, mu_55, mu_56, mh297, k⟩ := k
                      obtain ⟨mq298, mq299, mq300⟩ := mb_takesP (ck10).1 mh297
                      replace mq298 := mq298.symm
                      subst mq298
                      replace mq299 := mq299.symm
                      subst mq299
                      replace mq300 := mq300.symm
                      subst mq300
                      replace k := zk_t (by decide) k
                      subst me246
                      subst me248
                      replace k := Option.some.inj k
                      rw [← k]
                      first | (exfalso; omega) | exact Or.inl ⟨by omega, rfl, ⟨by intro j hj; first | rfl | exact upd_n hj | exact (upd_n hj).trans (upd_n hj), by intro j hj; first | rfl | exact upd_n hj | exact (upd_n hj).trans (upd_n hj), by intro j hj; first | rfl | exact upd_n hj | exact (upd_n hj).trans (upd_n hj), by intro j hj; first | rfl | exact upd_n hj | exact (upd_n hj).trans (upd_n hj), by intro j hj; first | rfl | exact upd_n hj | exact (upd_n hj).trans (upd_n hj), by intro j hj; first | rfl | exact upd_n hj | exact (upd_n hj).trans (upd_n hj), by intro j hj; first | rfl | exact upd_n hj | exact (upd_n hj).trans (upd_n hj), by intro j hj; first | rfl | exact upd_n hj | exact (upd_n hj).trans (upd_n hj), fun _ _ => rfl, fun _ _ => rfl⟩⟩
                · exact (mk238 ck2).elim
              · replace cq58 := cq58.symm
                subst cq58
                replace cq59 := cq59.symm
                subst cq59
                simp only [Option.some.injEq, Prod.mk.injEq] at h
                obtain ⟨rfl, rfl, rfl, rfl, rfl, rfl⟩ := h
                replace k := zk_o3 k
                obtain ⟨mr_43, mu_44, mu_45, mh301, k⟩ := k
                rcases mb_takesN (n := 61) hT hR hf hp (by decide) mh301 with ⟨mk302, mq304, mq305, mq306, mk303⟩ | ⟨mk302, _, _, _⟩
                · replace mq304 := mq304.symm
                  subst mq304
                  replace mq305 := mq305.symm
                  subst mq305
                  replace mq306 := mq306.symm
                  subst mq306
                  have mk303a := mk303.1
                  replace k := zk_f (by decide) k
                  replace k := zk_o5 k
                  obtain ⟨mu_48, mu_49, mu_50, mu_51, mu_52, mh307, k⟩ := k
                  unfold f_X12_readEnding at mh307
                  unfold B_X12_readEnding_0 at mh307
                  obtain ⟨mr_1, mu_2, mh308, mh307⟩ := zk_o2 mh307
                  obtain mk309 := mb_look hT hR mk303 mh308
                  have mh307 := zk_f (fun z => absurd ((BR_E (n := 109) mk309 (by decide)).mp z) (by omega)) mh307
                  have mh307 := zk_f (fun z => absurd ((BR_E (n := 102) mk309 (by decide)).mp z) (by omega)) mh307
                  have mh307 := zk_f (fun z => absurd ((BR_E (n := 97) mk309 (by decide)).mp z) (by omega)) mh307
                  have mh307 := zk_f (fun z => absurd ((BR_E (n := 100) mk309 (by decide)).mp z) (by omega)) mh307
                  have mh307 := zk_t ((BR_E (n := 112) mk309 (by decide)).mpr (by omega)) mh307
                  unfold B_X12_readEnding_40 at mh307
                  have mh307 := zk_f (fun z => absurd ((BR_E (n := 109) mk309 (by decide)).mp z) (by omega)) mh307
                  have mh307 := zk_f (fun z => absurd ((BR_E (n := 102) mk309 (by decide)).mp z) (by omega)) mh307
                  have mh307 := zk_f (fun z => absurd ((BR_E (n := 97) mk309 (by decide)).mp z) (by omega)) mh307
                  have mh307 := zk_f (fun z => absurd ((BR_E (n := 100) mk309 (by decide)).mp z) (by omega)) mh307
                  unfold B_X12_readEnding_87 at mh307
                  rw [hq] at mh307
                  obtain ⟨_, mh307⟩ := zk_gd mh307
                  obtain ⟨mf_16, me310, mh307⟩ := zk_lt mh307
                  obtain ⟨_, mh307⟩ := zk_gd mh307
                  obtain ⟨mv_18, me311, mh307⟩ := zk_lt mh307
                  replace me311 := me311.symm
                  subst me311
                  obtain ⟨_, mh307⟩ := zk_gd mh307
                  obtain ⟨mf_20, me312, mh307⟩ := zk_lt mh307
                  obtain ⟨mv_21, me313, mh307⟩ := zk_lt mh307
                  subst me313
                  have mh307 := zk_t ((BR_E (n := 112) mk309 (by decide)).mpr (by omega)) mh307
                  obtain ⟨mr_23, mu_24, mh314, mh307⟩ := zk_o2 mh307
                  obtain mk315 := mb_look hT hR ck10 mh314
                  obtain ⟨_, mh307⟩ := zk_gd mh307
                  by_cases mc316 : (9 : Int32) ≤ su_askedCount
                  · have mh307 := zk_t mc316 mh307
                    have mc316n := mc316
                    (try simp only [i32_lt, i32_le, i32_e, z32_0, z32_1, z32L_9] at mc316n)
                    unfold B_X12_readEnding_146 at mh307
                    obtain ⟨mr_29, mu_30, mh317, mh307⟩ := zk_o2 mh307
                    rcases mb_first mk315 (by decide) mh317 with ⟨mq320, mk318, mk319⟩ | ⟨mq321, mk318⟩
                    · replace mq320 := mq320.symm
                      subst mq320
                      try rw [z32L_9] at mk319
                      have mh307 := zk_f (by decide) mh307
                      obtain ⟨mr_33, mu_34, mh322, mh307⟩ := zk_o2 mh307
                      obtain mk323 := mb_look hT hR ck10 mh322
                      obtain ⟨mv_36, me324, mh307⟩ := zk_lt mh307
                      subst me324
                      obtain ⟨_, mh307⟩ := zk_gd mh307
                      obtain ⟨mf_38, me325, mh307⟩ := zk_lt mh307
                      obtain ⟨mv_39, me326, mh307⟩ := zk_lt mh307
                      subst me326
                      unfold B_X12_readEnding_180 at mh307
                      obtain ⟨mr_42, mu_43, mh327, mh307⟩ := zk_o2 mh307
                      obtain mk328 := mb_look hT hR ck17 mh327
                      have mh307 := zk_f (fun z => absurd ((BR_E (n := 119) mk328 (by decide)).mp z) (by omega)) mh307
                      obtain ⟨mr_46, mu_47, mh329, mh307⟩ := zk_o2 mh307
                      obtain mk330 := mb_look hT hR ck17 mh329
                      have mh307 := zk_f (fun z => absurd ((BR_E (n := 108) mk330 (by decide)).mp z) (by omega)) mh307
                      obtain ⟨mu_50, mh331, mh307⟩ := zk_o1 mh307
                      obtain mq332 := mb_wrongN hf mh331
                      replace mq332 := mq332.symm
                      subst mq332
                      simp only [Option.some.injEq, Prod.mk.injEq] at mh307
                      obtain ⟨rfl, rfl, rfl, rfl, rfl⟩ := mh307
                      replace k := zk_o3 k
                      obtain ⟨mr_54, mu_55, mu_56, mh333, k⟩ := k
                      obtain ⟨mq334, mq335, mq336⟩ := mb_takesP (ck17).1 mh333
                      replace mq334 := mq334.symm
                      subst mq334
                      replace mq335 := mq335.symm
                      subst mq335
                      replace mq336 := mq336.symm
                      subst mq336
                      replace k := zk_t (by decide) k
                      subst me310
                      subst me312
                      subst me325
                      replace k := Option.some.inj k
                      rw [← k]
                      first | (exfalso; omega) | exact Or.inl ⟨(ck17).1, rfl, ⟨by intro j hj; first | rfl | exact upd_n hj | exact (upd_n hj).trans (upd_n hj), by intro j hj; first | rfl | exact upd_n hj | exact (upd_n hj).trans (upd_n hj), by intro j hj; first | rfl | exact upd_n hj | exact (upd_n hj).trans (upd_n hj), by intro j hj; first | rfl | exact upd_n hj | exact (upd_n hj).trans (upd_n hj), by intro j hj; first | rfl | exact upd_n hj | exact (upd_n hj).trans (upd_n hj), by intro j hj; first | rfl | exact upd_n hj | exact (upd_n hj).trans (upd_n hj), by intro j hj; first | rfl | exact upd_n hj | exact (upd_n hj).trans (upd_n hj), by intro j hj; first | rfl | exact upd_n hj | exact (upd_n hj).trans (upd_n hj), fun _ _ => rfl, fun _ _ => rfl⟩⟩
                    · replace mq321 := mq321.symm
                      subst mq321
                      try rw [z32L_9] at mk318
                      have mh307 := zk_t (by decide) mh307
                      obtain ⟨mu_40, mh337, mh307⟩ := zk_o1 mh307
                      obtain mq338 := mb_wrongN hf mh337
                      replace mq338 := mq338.symm
                      subst mq338
                      simp only [Option.some.injEq, Prod.mk.injEq] at mh307
                      obtain ⟨rfl, rfl, rfl, rfl, rfl⟩ := mh307
                      replace k := zk_o3 k
                      obtain ⟨mr_54, mu_55, mu_56, mh339, k⟩ := k
                      obtain ⟨mq340, mq341, mq342⟩ := mb_takesP (ck10).1 mh339
                      replace mq340 := mq340.symm
                      subst mq340
                      replace mq341 := mq341.symm
                      subst mq341
                      replace mq342 := mq342.symm
                      subst mq342
                      replace k := zk_t (by decide) k
                      subst me310
                      subst me312
                      replace k := Option.some.inj k
                      rw [← k]
                      first | (exfalso; omega) | exact Or.inl ⟨(ck17).1, rfl, ⟨by intro j hj; first | rfl | exact upd_n hj | exact (upd_n hj).trans (upd_n hj), by intro j hj; first | rfl | exact upd_n hj | exact (upd_n hj).trans (upd_n hj), by intro j hj; first | rfl | exact upd_n hj | exact (upd_n hj).trans (upd_n hj), by intro j hj; first | rfl | exact upd_n hj | exact (upd_n hj).trans (upd_n hj), by intro j hj; first | rfl | exact upd_n hj | exact (upd_n hj).trans (upd_n hj), by intro j hj; first | rfl | exact upd_n hj | exact (upd_n hj).trans (upd_n hj), by intro j hj; first | rfl | exact upd_n hj | exact (upd_n hj).trans (upd_n hj), by intro j hj; first | rfl | exact upd_n hj | exact (upd_n hj).trans (upd_n hj), fun _ _ => rfl, fun _ _ => rfl⟩⟩
                  · have mh307 := zk_f mc316 mh307
                    have mc316n := mc316
                    (try simp only [i32_lt, i32_le, i32_e, z32_0, z32_1, z32L_9] at mc316n)
                    obtain ⟨_, mh307⟩ := zk_gd mh307
                    unfold B_X12_readEnding_146 at mh307
                    obtain ⟨mr_29, mu_30, mh343, mh307⟩ := zk_o2 mh307
                    rcases mb_first mk315 (by omega) mh343 with ⟨mq346, mk344, mk345⟩ | ⟨mq347, mk344⟩
                    · replace mq346 := mq346.symm
                      subst mq346
                      try rw [z32L_9] at mk345
                      have mh307 := zk_f (by decide) mh307
                      obtain ⟨mr_33, mu_34, mh348, mh307⟩ := zk_o2 mh307
                      obtain mk349 := mb_look hT hR ck10 mh348
                      obtain ⟨mv_36, me350, mh307⟩ := zk_lt mh307
                      subst me350
                      obtain ⟨_, mh307⟩ := zk_gd mh307
                      obtain ⟨mf_38, me351, mh307⟩ := zk_lt mh307
                      obtain ⟨mv_39, me352, mh307⟩ := zk_lt mh307
                      subst me352
                      unfold B_X12_readEnding_180 at mh307
                      obtain ⟨mr_42, mu_43, mh353, mh307⟩ := zk_o2 mh307
                      obtain mk354 := mb_look hT hR ck17 mh353
                      have mh307 := zk_f (fun z => absurd ((BR_E (n := 119) mk354 (by decide)).mp z) (by omega)) mh307
                      obtain ⟨mr_46, mu_47, mh355, mh307⟩ := zk_o2 mh307
                      obtain mk356 := mb_look hT hR ck17 mh355
                      have mh307 := zk_f (fun z => absurd ((BR_E (n := 108) mk356 (by decide)).mp z) (by omega)) mh307
                      obtain ⟨mu_50, mh357, mh307⟩ := zk_o1 mh307
                      obtain mq358 := mb_wrongN hf mh357
                      replace mq358 := mq358.symm
                      subst mq358
                      simp only [Option.some.injEq, Prod.mk.injEq] at mh307
                      obtain ⟨rfl, rfl, rfl, rfl, rfl⟩ := mh307
                      replace k := zk_o3 k
                      obtain ⟨mr_54, mu_55, mu_56, mh359, k⟩ := k
                      obtain ⟨mq360, mq361, mq362⟩ := mb_takesP (ck17).1 mh359
                      replace mq360 := mq360.symm
                      subst mq360
                      replace mq361 := mq361.symm
                      subst mq361
                      replace mq362 := mq362.symm
                      subst mq362
                      replace k := zk_t (by decide) k
                      subst me310
                      subst me312
                      subst me351
                      replace k := Option.some.inj k
                      rw [← k]
                      first | (exfalso; omega) | exact Or.inl ⟨(ck17).1, rfl, ⟨by intro j hj; first | rfl | exact upd_n hj | exact (upd_n hj).trans (upd_n hj), by intro j hj; first | rfl | exact upd_n hj | exact (upd_n hj).trans (upd_n hj), by intro j hj; first | rfl | exact upd_n hj | exact (upd_n hj).trans (upd_n hj), by intro j hj; first | rfl | exact upd_n hj | exact (upd_n hj).trans (upd_n hj), by intro j hj; first | rfl | exact upd_n hj | exact (upd_n hj).trans (upd_n hj), by intro j hj; first | rfl | exact upd_n hj | exact (upd_n hj).trans (upd_n hj), by intro j hj; first | rfl | exact upd_n hj | exact (upd_n hj).trans (upd_n hj), by intro j hj; first | rfl | exact upd_n hj | exact (upd_n hj).trans (upd_n hj), fun _ _ => rfl, fun _ _ => rfl⟩⟩
                    · replace mq347 := mq347.symm
                      subst mq347
                      try rw [z32L_9] at mk344
                      have mh307 := zk_t (by decide) mh307
                      obtain ⟨mu_40, mh363, mh307⟩ := zk_o1 mh307
                      obtain mq364 := mb_wrongN hf mh363
                      replace mq364 := mq364.symm
                      subst mq364
                      simp only [Option.some.injEq, Prod.mk.injEq] at mh307
                      obtain ⟨rfl, rfl, rfl, rfl, rfl⟩ := mh307
                      replace k := zk_o3 k
                      obtain ⟨mr_54, mu_55, mu_56, mh365, k⟩ := k
                      obtain ⟨mq366, mq367, mq368⟩ := mb_takesP (ck10).1 mh365
                      replace mq366 := mq366.symm
                      subst mq366
                      replace mq367 := mq367.symm
                      subst mq367
                      replace mq368 := mq368.symm
                      subst mq368
                      replace k := zk_t (by decide) k
                      subst me310
                      subst me312
                      replace k := Option.some.inj k
                      rw [← k]
                      first | (exfalso; omega) | exact Or.inl ⟨(ck17).1, rfl, ⟨by intro j hj; first | rfl | exact upd_n hj | exact (upd_n hj).trans (upd_n hj), by intro j hj; first | rfl | exact upd_n hj | exact (upd_n hj).trans (upd_n hj), by intro j hj; first | rfl | exact upd_n hj | exact (upd_n hj).trans (upd_n hj), by intro j hj; first | rfl | exact upd_n hj | exact (upd_n hj).trans (upd_n hj), by intro j hj; first | rfl | exact upd_n hj | exact (upd_n hj).trans (upd_n hj), by intro j hj; first | rfl | exact upd_n hj | exact (upd_n hj).trans (upd_n hj), by intro j hj; first | rfl | exact upd_n hj | exact (upd_n hj).trans (upd_n hj), by intro j hj; first | rfl | exact upd_n hj | exact (upd_n hj).trans (upd_n hj), fun _ _ => rfl, fun _ _ => rfl⟩⟩
                · exact (mk302 ck2).elim
      · replace cq22 := cq22.symm
        subst cq22
        replace cq23 := cq23.symm
        subst cq23
        replace cq24 := cq24.symm
        subst cq24
        replace cq25 := cq25.symm
        subst cq25
        replace h := zk_t (by decide) h
        unfold B_X8_readEnding_54 at h
        unfold B_X8_readEnding_55 at h
        replace h := zk_o1 h
        obtain ⟨cu_27, ch60, h⟩ := h
        obtain cq61 := cb_judgeP (ck10).1 ch60
        replace cq61 := cq61.symm
        subst cq61
        unfold B_X8_readEnding_123 at h
        replace h := zk_o2 h
        obtain ⟨cr_33, cu_34, ch62, h⟩ := h
        obtain ⟨cq63, cq64⟩ := cb_acceptP (ck10).1 ch62
        replace cq63 := cq63.symm
        subst cq63
        replace cq64 := cq64.symm
        subst cq64
        replace h := zk_t (by decide) h
        unfold B_X8_readEnding_138 at h
        replace h := zk_t (by decide) h
        replace h := zk_o2 h
        obtain ⟨cu_38, cu_39, ch65, h⟩ := h
        obtain ⟨cq66, cq67⟩ := cb_expectP (ck10).1 ch65
        replace cq66 := cq66.symm
        subst cq66
        replace cq67 := cq67.symm
        subst cq67
        simp only [Option.some.injEq, Prod.mk.injEq] at h
        obtain ⟨rfl, rfl, rfl, rfl, rfl, rfl⟩ := h
        replace k := zk_o3 k
        obtain ⟨mr_43, mu_44, mu_45, mh369, k⟩ := k
        rcases mb_takesN (n := 61) hT hR hf hp (by decide) mh369 with ⟨mk370, mq372, mq373, mq374, mk371⟩ | ⟨mk370, _, _, _⟩
        · replace mq372 := mq372.symm
          subst mq372
          replace mq373 := mq373.symm
          subst mq373
          replace mq374 := mq374.symm
          subst mq374
          have mk371a := mk371.1
          replace k := zk_f (by decide) k
          replace k := zk_o5 k
          obtain ⟨mu_48, mu_49, mu_50, mu_51, mu_52, mh375, k⟩ := k
          unfold f_X12_readEnding at mh375
          unfold B_X12_readEnding_0 at mh375
          obtain ⟨mr_1, mu_2, mh376, mh375⟩ := zk_o2 mh375
          obtain mk377 := mb_look hT hR mk371 mh376
          have mh375 := zk_f (fun z => absurd ((BR_E (n := 109) mk377 (by decide)).mp z) (by omega)) mh375
          have mh375 := zk_f (fun z => absurd ((BR_E (n := 102) mk377 (by decide)).mp z) (by omega)) mh375
          have mh375 := zk_f (fun z => absurd ((BR_E (n := 97) mk377 (by decide)).mp z) (by omega)) mh375
          have mh375 := zk_f (fun z => absurd ((BR_E (n := 100) mk377 (by decide)).mp z) (by omega)) mh375
          have mh375 := zk_t ((BR_E (n := 112) mk377 (by decide)).mpr (by omega)) mh375
          unfold B_X12_readEnding_40 at mh375
          have mh375 := zk_f (fun z => absurd ((BR_E (n := 109) mk377 (by decide)).mp z) (by omega)) mh375
          have mh375 := zk_f (fun z => absurd ((BR_E (n := 102) mk377 (by decide)).mp z) (by omega)) mh375
          have mh375 := zk_f (fun z => absurd ((BR_E (n := 97) mk377 (by decide)).mp z) (by omega)) mh375
          have mh375 := zk_f (fun z => absurd ((BR_E (n := 100) mk377 (by decide)).mp z) (by omega)) mh375
          unfold B_X12_readEnding_87 at mh375
          rw [hq] at mh375
          obtain ⟨_, mh375⟩ := zk_gd mh375
          obtain ⟨mf_16, me378, mh375⟩ := zk_lt mh375
          obtain ⟨_, mh375⟩ := zk_gd mh375
          obtain ⟨mv_18, me379, mh375⟩ := zk_lt mh375
          replace me379 := me379.symm
          subst me379
          obtain ⟨_, mh375⟩ := zk_gd mh375
          obtain ⟨mf_20, me380, mh375⟩ := zk_lt mh375
          obtain ⟨mv_21, me381, mh375⟩ := zk_lt mh375
          subst me381
          have mh375 := zk_t ((BR_E (n := 112) mk377 (by decide)).mpr (by omega)) mh375
          obtain ⟨mr_23, mu_24, mh382, mh375⟩ := zk_o2 mh375
          obtain mk383 := mb_look hT hR ck10 mh382
          obtain ⟨_, mh375⟩ := zk_gd mh375
          by_cases mc384 : (9 : Int32) ≤ su_askedCount
          · have mh375 := zk_t mc384 mh375
            have mc384n := mc384
            (try simp only [i32_lt, i32_le, i32_e, z32_0, z32_1, z32L_9] at mc384n)
            unfold B_X12_readEnding_146 at mh375
            obtain ⟨mr_29, mu_30, mh385, mh375⟩ := zk_o2 mh375
            rcases mb_first mk383 (by decide) mh385 with ⟨mq388, mk386, mk387⟩ | ⟨mq389, mk386⟩
            · replace mq388 := mq388.symm
              subst mq388
              try rw [z32L_9] at mk387
              have mh375 := zk_f (by decide) mh375
              obtain ⟨mr_33, mu_34, mh390, mh375⟩ := zk_o2 mh375
              obtain mk391 := mb_look hT hR ck10 mh390
              obtain ⟨mv_36, me392, mh375⟩ := zk_lt mh375
              subst me392
              obtain ⟨_, mh375⟩ := zk_gd mh375
              obtain ⟨mf_38, me393, mh375⟩ := zk_lt mh375
              obtain ⟨mv_39, me394, mh375⟩ := zk_lt mh375
              subst me394
              unfold B_X12_readEnding_180 at mh375
              obtain ⟨mr_42, mu_43, mh395, mh375⟩ := zk_o2 mh375
              obtain mk396 := mb_look hT hR (PB_s (tb := tb) hT ck10 (by omega)) mh395
              by_cases mc397 : mr_42 = (119 : Int32)
              · have mh375 := zk_t mc397 mh375
                have mc397n := (BR_E (n := 119) mk396 (by decide)).mp mc397
                unfold B_X12_readEnding_203 at mh375
                obtain ⟨mr_52, mu_53, mh398, mh375⟩ := zk_o2 mh375
                obtain mk399 := mb_look hT hR (PB_s (tb := tb) hT ck10 (by omega)) mh398
                have mh375 := zk_t ((BR_E (n := 119) mk399 (by decide)).mpr (by omega)) mh375
                unfold B_X12_readEnding_222 at mh375
                obtain ⟨_, mh375⟩ := zk_gd mh375
                obtain ⟨mf_57, me400, mh375⟩ := zk_lt mh375
                obtain ⟨mv_58, me401, mh375⟩ := zk_lt mh375
                subst me401
                simp only [Option.some.injEq, Prod.mk.injEq] at mh375
                obtain ⟨rfl, rfl, rfl, rfl, rfl⟩ := mh375
                subst me378
                subst me380
                subst me393
                subst me400
                exfalso; omega
              · have mh375 := zk_f mc397 mh375
                have mc397n := (fun z => mc397 ((BR_E (n := 119) mk396 (by decide)).mpr z))
                obtain ⟨mr_46, mu_47, mh402, mh375⟩ := zk_o2 mh375
                obtain mk403 := mb_look hT hR (PB_s (tb := tb) hT ck10 (by omega)) mh402
                by_cases mc404 : mr_46 = (108 : Int32)
                · have mh375 := zk_t mc404 mh375
                  have mc404n := (BR_E (n := 108) mk403 (by decide)).mp mc404
                  unfold B_X12_readEnding_203 at mh375
                  obtain ⟨mr_52, mu_53, mh405, mh375⟩ := zk_o2 mh375
                  obtain mk406 := mb_look hT hR (PB_s (tb := tb) hT ck10 (by omega)) mh405
                  have mh375 := zk_f (fun z => absurd ((BR_E (n := 119) mk406 (by decide)).mp z) (by omega)) mh375
                  unfold B_X12_readEnding_222 at mh375
                  obtain ⟨_, mh375⟩ := zk_gd mh375
                  obtain ⟨mf_57, me407, mh375⟩ := zk_lt mh375
                  obtain ⟨mv_58, me408, mh375⟩ := zk_lt mh375
                  subst me408
                  simp only [Option.some.injEq, Prod.mk.injEq] at mh375
                  obtain ⟨rfl, rfl, rfl, rfl, rfl⟩ := mh375
                  subst me378
                  subst me380
                  subst me393
                  subst me407
                  exfalso; omega
                · have mh375 := zk_f mc404 mh375
                  have mc404n := (fun z => mc404 ((BR_E (n := 108) mk403 (by decide)).mpr z))
                  obtain ⟨mu_50, mh409, mh375⟩ := zk_o1 mh375
                  obtain mq410 := mb_wrongN hf mh409
                  replace mq410 := mq410.symm
                  subst mq410
                  simp only [Option.some.injEq, Prod.mk.injEq] at mh375
                  obtain ⟨rfl, rfl, rfl, rfl, rfl⟩ := mh375
                  replace k := zk_o3 k
                  obtain ⟨mr_54, mu_55, mu_56, mh411, k⟩ := k
                  obtain ⟨mq412, mq413, mq414⟩ := mb_takesP ((PB_s (tb := tb) hT ck10 (by omega))).1 mh411
                  replace mq412 := mq412.symm
                  subst mq412
                  replace mq413 := mq413.symm
                  subst mq413
                  replace mq414 := mq414.symm
                  subst mq414
                  replace k := zk_t (by decide) k
                  subst me378
                  subst me380
                  subst me393
                  replace k := Option.some.inj k
                  rw [← k]
                  first | (exfalso; omega) | exact Or.inl ⟨(ck10).1, rfl, ⟨by intro j hj; first | rfl | exact upd_n hj | exact (upd_n hj).trans (upd_n hj), by intro j hj; first | rfl | exact upd_n hj | exact (upd_n hj).trans (upd_n hj), by intro j hj; first | rfl | exact upd_n hj | exact (upd_n hj).trans (upd_n hj), by intro j hj; first | rfl | exact upd_n hj | exact (upd_n hj).trans (upd_n hj), by intro j hj; first | rfl | exact upd_n hj | exact (upd_n hj).trans (upd_n hj), by intro j hj; first | rfl | exact upd_n hj | exact (upd_n hj).trans (upd_n hj), by intro j hj; first | rfl | exact upd_n hj | exact (upd_n hj).trans (upd_n hj), by intro j hj; first | rfl | exact upd_n hj | exact (upd_n hj).trans (upd_n hj), fun _ _ => rfl, fun _ _ => rfl⟩⟩
            · replace mq389 := mq389.symm
              subst mq389
              try rw [z32L_9] at mk386
              have mh375 := zk_t (by decide) mh375
              obtain ⟨mu_40, mh415, mh375⟩ := zk_o1 mh375
              obtain mq416 := mb_wrongN hf mh415
              replace mq416 := mq416.symm
              subst mq416
              simp only [Option.some.injEq, Prod.mk.injEq] at mh375
              obtain ⟨rfl, rfl, rfl, rfl, rfl⟩ := mh375
              replace k := zk_o3 k
              obtain ⟨mr_54, mu_55, mu_56, mh417, k⟩ := k
              obtain ⟨mq418, mq419, mq420⟩ := mb_takesP (ck10).1 mh417
              replace mq418 := mq418.symm
              subst mq418
              replace mq419 := mq419.symm
              subst mq419
              replace mq420 := mq420.symm
              subst mq420
              replace k := zk_t (by decide) k
              subst me378
              subst me380
              replace k := Option.some.inj k
              rw [← k]
              first | (exfalso; omega) | exact Or.inl ⟨(ck10).1, rfl, ⟨by intro j hj; first | rfl | exact upd_n hj | exact (upd_n hj).trans (upd_n hj), by intro j hj; first | rfl | exact upd_n hj | exact (upd_n hj).trans (upd_n hj), by intro j hj; first | rfl | exact upd_n hj | exact (upd_n hj).trans (upd_n hj), by intro j hj; first | rfl | exact upd_n hj | exact (upd_n hj).trans (upd_n hj), by intro j hj; first | rfl | exact upd_n hj | exact (upd_n hj).trans (upd_n hj), by intro j hj; first | rfl | exact upd_n hj | exact (upd_n hj).trans (upd_n hj), by intro j hj; first | rfl | exact upd_n hj | exact (upd_n hj).trans (upd_n hj), by intro j hj; first | rfl | exact upd_n hj | exact (upd_n hj).trans (upd_n hj), fun _ _ => rfl, fun _ _ => rfl⟩⟩
          · have mh375 := zk_f mc384 mh375
            have mc384n := mc384
            (try simp only [i32_lt, i32_le, i32_e, z32_0, z32_1, z32L_9] at mc384n)
            obtain ⟨_, mh375⟩ := zk_gd mh375
            unfold B_X12_readEnding_146 at mh375
            obtain ⟨mr_29, mu_30, mh421, mh375⟩ := zk_o2 mh375
            rcases mb_first mk383 (by omega) mh421 with ⟨mq424, mk422, mk423⟩ | ⟨mq425, mk422⟩
            · replace mq424 := mq424.symm
              subst mq424
              try rw [z32L_9] at mk423
              have mh375 := zk_f (by decide) mh375
              obtain ⟨mr_33, mu_34, mh426, mh375⟩ := zk_o2 mh375
              obtain mk427 := mb_look hT hR ck10 mh426
              obtain ⟨mv_36, me428, mh375⟩ := zk_lt mh375
              subst me428
              obtain ⟨_, mh375⟩ := zk_gd mh375
              obtain ⟨mf_38, me429, mh375⟩ := zk_lt mh375
              obtain ⟨mv_39, me430, mh375⟩ := zk_lt mh375
              subst me430
              unfold B_X12_readEnding_180 at mh375
              obtain ⟨mr_42, mu_43, mh431, mh375⟩ := zk_o2 mh375
              obtain mk432 := mb_look hT hR (PB_s (tb := tb) hT ck10 (by omega)) mh431
              by_cases mc433 : mr_42 = (119 : Int32)
              · have mh375 := zk_t mc433 mh375
                have mc433n := (BR_E (n := 119) mk432 (by decide)).mp mc433
                unfold B_X12_readEnding_203 at mh375
                obtain ⟨mr_52, mu_53, mh434, mh375⟩ := zk_o2 mh375
                obtain mk435 := mb_look hT hR (PB_s (tb := tb) hT ck10 (by omega)) mh434
                have mh375 := zk_t ((BR_E (n := 119) mk435 (by decide)).mpr (by omega)) mh375
                unfold B_X12_readEnding_222 at mh375
                obtain ⟨_, mh375⟩ := zk_gd mh375
                obtain ⟨mf_57, me436, mh375⟩ := zk_lt mh375
                obtain ⟨mv_58, me437, mh375⟩ := zk_lt mh375
                subst me437
                simp only [Option.some.injEq, Prod.mk.injEq] at mh375
                obtain ⟨rfl, rfl, rfl, rfl, rfl⟩ := mh375
                subst me378
                subst me380
                subst me429
                subst me436
                exfalso; omega
              · have mh375 := zk_f mc433 mh375
                have mc433n := (fun z => mc433 ((BR_E (n := 119) mk432 (by decide)).mpr z))
                obtain ⟨mr_46, mu_47, mh438, mh375⟩ := zk_o2 mh375
                obtain mk439 := mb_look hT hR (PB_s (tb := tb) hT ck10 (by omega)) mh438
                by_cases mc440 : mr_46 = (108 : Int32)
                · have mh375 := zk_t mc440 mh375
                  have mc440n := (BR_E (n := 108) mk439 (by decide)).mp mc440
                  unfold B_X12_readEnding_203 at mh375
                  obtain ⟨mr_52, mu_53, mh441, mh375⟩ := zk_o2 mh375
                  obtain mk442 := mb_look hT hR (PB_s (tb := tb) hT ck10 (by omega)) mh441
                  have mh375 := zk_f (fun z => absurd ((BR_E (n := 119) mk442 (by decide)).mp z) (by omega)) mh375
                  unfold B_X12_readEnding_222 at mh375
                  obtain ⟨_, mh375⟩ := zk_gd mh375
                  obtain ⟨mf_57, me443, mh375⟩ := zk_lt mh375
                  obtain ⟨mv_58, me444, mh375⟩ := zk_lt mh375
                  subst me444
                  simp only [Option.some.injEq, Prod.mk.injEq] at mh375
                  obtain ⟨rfl, rfl, rfl, rfl, rfl⟩ := mh375
                  subst me378
                  subst me380
                  subst me429
                  subst me443
                  exfalso; omega
                · have mh375 := zk_f mc440 mh375
                  have mc440n := (fun z => mc440 ((BR_E (n := 108) mk439 (by decide)).mpr z))
                  obtain ⟨mu_50, mh445, mh375⟩ := zk_o1 mh375
                  obtain mq446 := mb_wrongN hf mh445
                  replace mq446 := mq446.symm
                  subst mq446
                  simp only [Option.some.injEq, Prod.mk.injEq] at mh375
                  obtain ⟨rfl, rfl, rfl, rfl, rfl⟩ := mh375
                  replace k := zk_o3 k
                  obtain ⟨mr_54, mu_55, mu_56, mh447, k⟩ := k
                  obtain ⟨mq448, mq449, mq450⟩ := mb_takesP ((PB_s (tb := tb) hT ck10 (by omega))).1 mh447
                  replace mq448 := mq448.symm
                  subst mq448
                  replace mq449 := mq449.symm
                  subst mq449
                  replace mq450 := mq450.symm
                  subst mq450
                  replace k := zk_t (by decide) k
                  subst me378
                  subst me380
                  subst me429
                  replace k := Option.some.inj k
                  rw [← k]
                  first | (exfalso; omega) | exact Or.inl ⟨(ck10).1, rfl, ⟨by intro j hj; first | rfl | exact upd_n hj | exact (upd_n hj).trans (upd_n hj), by intro j hj; first | rfl | exact upd_n hj | exact (upd_n hj).trans (upd_n hj), by intro j hj; first | rfl | exact upd_n hj | exact (upd_n hj).trans (upd_n hj), by intro j hj; first | rfl | exact upd_n hj | exact (upd_n hj).trans (upd_n hj), by intro j hj; first | rfl | exact upd_n hj | exact (upd_n hj).trans (upd_n hj), by intro j hj; first | rfl | exact upd_n hj | exact (upd_n hj).trans (upd_n hj), by intro j hj; first | rfl | exact upd_n hj | exact (upd_n hj).trans (upd_n hj), by intro j hj; first | rfl | exact upd_n hj | exact (upd_n hj).trans (upd_n hj), fun _ _ => rfl, fun _ _ => rfl⟩⟩
            · replace mq425 := mq425.symm
              subst mq425
              try rw [z32L_9] at mk422
              have mh375 := zk_t (by decide) mh375
              obtain ⟨mu_40, mh451, mh375⟩ := zk_o1 mh375
              obtain mq452 := mb_wrongN hf mh451
              replace mq452 := mq452.symm
              subst mq452
              simp only [Option.some.injEq, Prod.mk.injEq] at mh375
              obtain ⟨rfl, rfl, rfl, rfl, rfl⟩ := mh375
              replace k := zk_o3 k
              obtain ⟨mr_54, mu_55, mu_56, mh453, k⟩ := k
              obtain ⟨mq454, mq455, mq456⟩ := mb_takesP (ck10).1 mh453
              replace mq454 := mq454.symm
              subst mq454
              replace mq455 := mq455.symm
              subst mq455
              replace mq456 := mq456.symm
              subst mq456
              replace k := zk_t (by decide) k
              subst me378
              subst me380
              replace k := Option.some.inj k
              rw [← k]
              first | (exfalso; omega) | exact Or.inl ⟨(ck10).1, rfl, ⟨by intro j hj; first | rfl | exact upd_n hj | exact (upd_n hj).trans (upd_n hj), by intro j hj; first | rfl | exact upd_n hj | exact (upd_n hj).trans (upd_n hj), by intro j hj; first | rfl | exact upd_n hj | exact (upd_n hj).trans (upd_n hj), by intro j hj; first | rfl | exact upd_n hj | exact (upd_n hj).trans (upd_n hj), by intro j hj; first | rfl | exact upd_n hj | exact (upd_n hj).trans (upd_n hj), by intro j hj; first | rfl | exact upd_n hj | exact (upd_n hj).trans (upd_n hj), by intro j hj; first | rfl | exact upd_n hj | exact (upd_n hj).trans (upd_n hj), by intro j hj; first | rfl | exact upd_n hj | exact (upd_n hj).trans (upd_n hj), fun _ _ => rfl, fun _ _ => rfl⟩⟩
        · exact (mk370 ck2).elim
    · replace cq13 := cq13.symm
      subst cq13
      replace cq14 := cq14.symm
      subst cq14
      replace h := zk_t (by decide) h
      replace h := zk_o2 h
      obtain ⟨cr_8, cu_9, ch68, h⟩ := h
      rcases cb_acceptN (n := 109) hT hf ck3 (by decide) ch68 with ⟨ck69, cq71, cq72, ck70⟩ | ⟨ck69, cq73, cq74⟩
      · replace cq71 := cq71.symm
        subst cq71
        replace cq72 := cq72.symm
        subst cq72
        have ck70a := ck70.1
        replace h := zk_f (by decide) h
        unfold B_X8_readEnding_106 at h
        replace h := zk_f (by decide) h
        unfold B_X8_readEnding_123 at h
        replace h := zk_o2 h
        obtain ⟨cr_33, cu_34, ch75, h⟩ := h
        rcases cb_acceptN (n := 119) hT hf ck70 (by decide) ch75 with ⟨ck76, cq78, cq79, ck77⟩ | ⟨ck76, cq80, cq81⟩
        · replace cq78 := cq78.symm
          subst cq78
          replace cq79 := cq79.symm
          subst cq79
          have ck77a := ck77.1
          replace h := zk_f (by decide) h
          unfold B_X8_readEnding_138 at h
          replace h := zk_f (by decide) h
          simp only [Option.some.injEq, Prod.mk.injEq] at h
          obtain ⟨rfl, rfl, rfl, rfl, rfl, rfl⟩ := h
          replace k := zk_o3 k
          obtain ⟨mr_43, mu_44, mu_45, mh457, k⟩ := k
          rcases mb_takesN (n := 61) hT hR hf hp (by decide) mh457 with ⟨mk458, mq460, mq461, mq462, mk459⟩ | ⟨mk458, _, _, _⟩
          · replace mq460 := mq460.symm
            subst mq460
            replace mq461 := mq461.symm
            subst mq461
            replace mq462 := mq462.symm
            subst mq462
            have mk459a := mk459.1
            replace k := zk_f (by decide) k
            replace k := zk_o5 k
            obtain ⟨mu_48, mu_49, mu_50, mu_51, mu_52, mh463, k⟩ := k
            unfold f_X12_readEnding at mh463
            unfold B_X12_readEnding_0 at mh463
            obtain ⟨mr_1, mu_2, mh464, mh463⟩ := zk_o2 mh463
            obtain mk465 := mb_look hT hR mk459 mh464
            have mh463 := zk_t ((BR_E (n := 109) mk465 (by decide)).mpr (by omega)) mh463
            unfold B_X12_readEnding_40 at mh463
            have mh463 := zk_t ((BR_E (n := 109) mk465 (by decide)).mpr (by omega)) mh463
            unfold B_X12_readEnding_87 at mh463
            rw [hq] at mh463
            obtain ⟨_, mh463⟩ := zk_gd mh463
            obtain ⟨mf_16, me466, mh463⟩ := zk_lt mh463
            obtain ⟨_, mh463⟩ := zk_gd mh463
            obtain ⟨mv_18, me467, mh463⟩ := zk_lt mh463
            replace me467 := me467.symm
            subst me467
            obtain ⟨_, mh463⟩ := zk_gd mh463
            obtain ⟨mf_20, me468, mh463⟩ := zk_lt mh463
            obtain ⟨mv_21, me469, mh463⟩ := zk_lt mh463
            subst me469
            have mh463 := zk_f (fun z => absurd ((BR_E (n := 112) mk465 (by decide)).mp z) (by omega)) mh463
            unfold B_X12_readEnding_180 at mh463
            obtain ⟨mr_42, mu_43, mh470, mh463⟩ := zk_o2 mh463
            obtain mk471 := mb_look hT hR ck70 mh470
            have mh463 := zk_t ((BR_E (n := 119) mk471 (by decide)).mpr (by omega)) mh463
            unfold B_X12_readEnding_203 at mh463
            obtain ⟨mr_52, mu_53, mh472, mh463⟩ := zk_o2 mh463
            obtain mk473 := mb_look hT hR ck70 mh472
            have mh463 := zk_t ((BR_E (n := 119) mk473 (by decide)).mpr (by omega)) mh463
            unfold B_X12_readEnding_222 at mh463
            obtain ⟨_, mh463⟩ := zk_gd mh463
            obtain ⟨mf_57, me474, mh463⟩ := zk_lt mh463
            obtain ⟨mv_58, me475, mh463⟩ := zk_lt mh463
            subst me475
            simp only [Option.some.injEq, Prod.mk.injEq] at mh463
            obtain ⟨rfl, rfl, rfl, rfl, rfl⟩ := mh463
            subst me466
            subst me468
            subst me474
            first | (exfalso; omega) | (refine Or.inr ⟨rfl, ck77, by first | decide | omega, by first | decide | omega, _, by first | exact ⟨fun z => absurd z (by decide), fun _ => rfl⟩ | exact ⟨fun _ => by rw [(nm_digit (ts := ts) (tb := tb) (a := ((at_ + 1) + (1 : Int32))) (by omega)).1, BR_v mk471 (by have hbz : bZ ts tb ((at_ + 1) + (1 : Int32)) = (bz ts tb ((at_ + 1) + (1 : Int32))).toInt := rfl; omega)], fun z => absurd rfl z⟩ | exact ⟨fun _ => by rw [(nm_digit (ts := ts) (tb := tb) (a := ((at_ + 1) + (1 : Int32))) (by omega)).1, BR_v mk473 (by have hbz : bZ ts tb ((at_ + 1) + (1 : Int32)) = (bz ts tb ((at_ + 1) + (1 : Int32))).toInt := rfl; omega)], fun z => absurd rfl z⟩, k⟩)
          · exact (mk458 ck2).elim
        · replace cq80 := cq80.symm
          subst cq80
          replace cq81 := cq81.symm
          subst cq81
          replace h := zk_t (by decide) h
          unfold B_X8_readEnding_138 at h
          replace h := zk_t (by decide) h
          replace h := zk_o2 h
          obtain ⟨cu_38, cu_39, ch82, h⟩ := h
          rcases cb_expectN (n := 108) hT hf ck70 (by decide) ch82 with ⟨ck83, cq85, cq86, ck84⟩ | ⟨ck83, cq87, cq88⟩
          · replace cq85 := cq85.symm
            subst cq85
            replace cq86 := cq86.symm
            subst cq86
            have ck84a := ck84.1
            simp only [Option.some.injEq, Prod.mk.injEq] at h
            obtain ⟨rfl, rfl, rfl, rfl, rfl, rfl⟩ := h
            replace k := zk_o3 k
            obtain ⟨mr_43, mu_44, mu_45, mh476, k⟩ := k
            rcases mb_takesN (n := 61) hT hR hf hp (by decide) mh476 with ⟨mk477, mq479, mq480, mq481, mk478⟩ | ⟨mk477, _, _, _⟩
            · replace mq479 := mq479.symm
              subst mq479
              replace mq480 := mq480.symm
              subst mq480
              replace mq481 := mq481.symm
              subst mq481
              have mk478a := mk478.1
              replace k := zk_f (by decide) k
              replace k := zk_o5 k
              obtain ⟨mu_48, mu_49, mu_50, mu_51, mu_52, mh482, k⟩ := k
              unfold f_X12_readEnding at mh482
              unfold B_X12_readEnding_0 at mh482
              obtain ⟨mr_1, mu_2, mh483, mh482⟩ := zk_o2 mh482
              obtain mk484 := mb_look hT hR mk478 mh483
              have mh482 := zk_t ((BR_E (n := 109) mk484 (by decide)).mpr (by omega)) mh482
              unfold B_X12_readEnding_40 at mh482
              have mh482 := zk_t ((BR_E (n := 109) mk484 (by decide)).mpr (by omega)) mh482
              unfold B_X12_readEnding_87 at mh482
              rw [hq] at mh482
              obtain ⟨_, mh482⟩ := zk_gd mh482
              obtain ⟨mf_16, me485, mh482⟩ := zk_lt mh482
              obtain ⟨_, mh482⟩ := zk_gd mh482
              obtain ⟨mv_18, me486, mh482⟩ := zk_lt mh482
              replace me486 := me486.symm
              subst me486
              obtain ⟨_, mh482⟩ := zk_gd mh482
              obtain ⟨mf_20, me487, mh482⟩ := zk_lt mh482
              obtain ⟨mv_21, me488, mh482⟩ := zk_lt mh482
              subst me488
              have mh482 := zk_f (fun z => absurd ((BR_E (n := 112) mk484 (by decide)).mp z) (by omega)) mh482
              unfold B_X12_readEnding_180 at mh482
              obtain ⟨mr_42, mu_43, mh489, mh482⟩ := zk_o2 mh482
              obtain mk490 := mb_look hT hR ck70 mh489
              have mh482 := zk_f (fun z => absurd ((BR_E (n := 119) mk490 (by decide)).mp z) (by omega)) mh482
              obtain ⟨mr_46, mu_47, mh491, mh482⟩ := zk_o2 mh482
              obtain mk492 := mb_look hT hR ck70 mh491
              have mh482 := zk_t ((BR_E (n := 108) mk492 (by decide)).mpr (by omega)) mh482
              unfold B_X12_readEnding_203 at mh482
              obtain ⟨mr_52, mu_53, mh493, mh482⟩ := zk_o2 mh482
              obtain mk494 := mb_look hT hR ck70 mh493
              have mh482 := zk_f (fun z => absurd ((BR_E (n := 119) mk494 (by decide)).mp z) (by omega)) mh482
              unfold B_X12_readEnding_222 at mh482
              obtain ⟨_, mh482⟩ := zk_gd mh482
              obtain ⟨mf_57, me495, mh482⟩ := zk_lt mh482
              obtain ⟨mv_58, me496, mh482⟩ := zk_lt mh482
              subst me496
              simp only [Option.some.injEq, Prod.mk.injEq] at mh482
              obtain ⟨rfl, rfl, rfl, rfl, rfl⟩ := mh482
              subst me485
              subst me487
              subst me495
              first | (exfalso; omega) | (refine Or.inr ⟨rfl, ck84, by first | decide | omega, by first | decide | omega, _, by first | exact ⟨fun z => absurd z (by decide), fun _ => rfl⟩ | exact ⟨fun _ => by rw [(nm_digit (ts := ts) (tb := tb) (a := ((at_ + 1) + (1 : Int32))) (by omega)).1, BR_v mk490 (by have hbz : bZ ts tb ((at_ + 1) + (1 : Int32)) = (bz ts tb ((at_ + 1) + (1 : Int32))).toInt := rfl; omega)], fun z => absurd rfl z⟩ | exact ⟨fun _ => by rw [(nm_digit (ts := ts) (tb := tb) (a := ((at_ + 1) + (1 : Int32))) (by omega)).1, BR_v mk492 (by have hbz : bZ ts tb ((at_ + 1) + (1 : Int32)) = (bz ts tb ((at_ + 1) + (1 : Int32))).toInt := rfl; omega)], fun z => absurd rfl z⟩ | exact ⟨fun _ => by rw [(nm_digit (ts := ts) (tb := tb) (a := ((at_ + 1) + (1 : Int32))) (by omega)).1, BR_v mk494 (by have hbz : bZ ts tb ((at_ + 1) + (1 : Int32)) = (bz ts tb ((at_ + 1) + (1 : Int32))).toInt := rfl; omega)], fun z => absurd rfl z⟩, k⟩)
            · exact (mk477 ck2).elim
          · replace cq87 := cq87.symm
            subst cq87
            replace cq88 := cq88.symm
            subst cq88
            simp only [Option.some.injEq, Prod.mk.injEq] at h
            obtain ⟨rfl, rfl, rfl, rfl, rfl, rfl⟩ := h
            replace k := zk_o3 k
            obtain ⟨mr_43, mu_44, mu_45, mh497, k⟩ := k
            rcases mb_takesN (n := 61) hT hR hf hp (by decide) mh497 with ⟨mk498, mq500, mq501, mq502, mk499⟩ | ⟨mk498, _, _, _⟩
            · replace mq500 := mq500.symm
              subst mq500
              replace mq501 := mq501.symm
              subst mq501
              replace mq502 := mq502.symm
              subst mq502
              have mk499a := mk499.1
              replace k := zk_f (by decide) k
              replace k := zk_o5 k
              obtain ⟨mu_48, mu_49, mu_50, mu_51, mu_52, mh503, k⟩ := k
              unfold f_X12_readEnding at mh503
              unfold B_X12_readEnding_0 at mh503
              obtain ⟨mr_1, mu_2, mh504, mh503⟩ := zk_o2 mh503
              obtain mk505 := mb_look hT hR mk499 mh504
              have mh503 := zk_t ((BR_E (n := 109) mk505 (by decide)).mpr (by omega)) mh503
              unfold B_X12_readEnding_40 at mh503
              have mh503 := zk_t ((BR_E (n := 109) mk505 (by decide)).mpr (by omega)) mh503
              unfold B_X12_readEnding_87 at mh503
              rw [hq] at mh503
              obtain ⟨_, mh503⟩ := zk_gd mh503
              obtain ⟨mf_16, me506, mh503⟩ := zk_lt mh503
              obtain ⟨_, mh503⟩ := zk_gd mh503
              obtain ⟨mv_18, me507, mh503⟩ := zk_lt mh503
              replace me507 := me507.symm
              subst me507
              obtain ⟨_, mh503⟩ := zk_gd mh503
              obtain ⟨mf_20, me508, mh503⟩ := zk_lt mh503
              obtain ⟨mv_21, me509, mh503⟩ := zk_lt mh503
              subst me509
              have mh503 := zk_f (fun z => absurd ((BR_E (n := 112) mk505 (by decide)).mp z) (by omega)) mh503
              unfold B_X12_readEnding_180 at mh503
              obtain ⟨mr_42, mu_43, mh510, mh503⟩ := zk_o2 mh503
              obtain mk511 := mb_look hT hR ck70 mh510
              have mh503 := zk_f (fun z => absurd ((BR_E (n := 119) mk511 (by decide)).mp z) (by omega)) mh503
              obtain ⟨mr_46, mu_47, mh512, mh503⟩ := zk_o2 mh503
              obtain mk513 := mb_look hT hR ck70 mh512
              have mh503 := zk_f (fun z => absurd ((BR_E (n := 108) mk513 (by decide)).mp z) (by omega)) mh503
              obtain ⟨mu_50, mh514, mh503⟩ := zk_o1 mh503
              obtain mq515 := mb_wrongN hf mh514
              replace mq515 := mq515.symm
              subst mq515
              simp only [Option.some.injEq, Prod.mk.injEq] at mh503
              obtain ⟨rfl, rfl, rfl, rfl, rfl⟩ := mh503
              replace k := zk_o3 k
              obtain ⟨mr_54, mu_55, mu_56, mh516, k⟩ := k
              obtain ⟨mq517, mq518, mq519⟩ := mb_takesP (ck70).1 mh516
              replace mq517 := mq517.symm
              subst mq517
              replace mq518 := mq518.symm
              subst mq518
              replace mq519 := mq519.symm
              subst mq519
              replace k := zk_t (by decide) k
              subst me506
              subst me508
              replace k := Option.some.inj k
              rw [← k]
              first | (exfalso; omega) | exact Or.inl ⟨(ck70).1, rfl, ⟨by intro j hj; first | rfl | exact upd_n hj | exact (upd_n hj).trans (upd_n hj), by intro j hj; first | rfl | exact upd_n hj | exact (upd_n hj).trans (upd_n hj), by intro j hj; first | rfl | exact upd_n hj | exact (upd_n hj).trans (upd_n hj), by intro j hj; first | rfl | exact upd_n hj | exact (upd_n hj).trans (upd_n hj), by intro j hj; first | rfl | exact upd_n hj | exact (upd_n hj).trans (upd_n hj), by intro j hj; first | rfl | exact upd_n hj | exact (upd_n hj).trans (upd_n hj), by intro j hj; first | rfl | exact upd_n hj | exact (upd_n hj).trans (upd_n hj), by intro j hj; first | rfl | exact upd_n hj | exact (upd_n hj).trans (upd_n hj), fun _ _ => rfl, fun _ _ => rfl⟩⟩
            · exact (mk498 ck2).elim
      · replace cq73 := cq73.symm
        subst cq73
        replace cq74 := cq74.symm
        subst cq74
        replace h := zk_t (by decide) h
        replace h := zk_o2 h
        obtain ⟨cr_12, cu_13, ch89, h⟩ := h
        rcases cb_acceptN (n := 102) hT hf ck3 (by decide) ch89 with ⟨ck90, cq92, cq93, ck91⟩ | ⟨ck90, cq94, cq95⟩
        · replace cq92 := cq92.symm
          subst cq92
          replace cq93 := cq93.symm
          subst cq93
          have ck91a := ck91.1
          replace h := zk_f (by decide) h
          unfold B_X8_readEnding_106 at h
          replace h := zk_f (by decide) h
          unfold B_X8_readEnding_123 at h
          replace h := zk_o2 h
          obtain ⟨cr_33, cu_34, ch96, h⟩ := h
          rcases cb_acceptN (n := 119) hT hf ck91 (by decide) ch96 with ⟨ck97, cq99, cq100, ck98⟩ | ⟨ck97, cq101, cq102⟩
          · replace cq99 := cq99.symm
            subst cq99
            replace cq100 := cq100.symm
            subst cq100
            have ck98a := ck98.1
            replace h := zk_f (by decide) h
            unfold B_X8_readEnding_138 at h
            replace h := zk_f (by decide) h
            simp only [Option.some.injEq, Prod.mk.injEq] at h
            obtain ⟨rfl, rfl, rfl, rfl, rfl, rfl⟩ := h
            replace k := zk_o3 k
            obtain ⟨mr_43, mu_44, mu_45, mh520, k⟩ := k
            rcases mb_takesN (n := 61) hT hR hf hp (by decide) mh520 with ⟨mk521, mq523, mq524, mq525, mk522⟩ | ⟨mk521, _, _, _⟩
            · replace mq523 := mq523.symm
              subst mq523
              replace mq524 := mq524.symm
              subst mq524
              replace mq525 := mq525.symm
              subst mq525
              have mk522a := mk522.1
              replace k := zk_f (by decide) k
              replace k := zk_o5 k
              obtain ⟨mu_48, mu_49, mu_50, mu_51, mu_52, mh526, k⟩ := k
              unfold f_X12_readEnding at mh526
              unfold B_X12_readEnding_0 at mh526
              obtain ⟨mr_1, mu_2, mh527, mh526⟩ := zk_o2 mh526
              obtain mk528 := mb_look hT hR mk522 mh527
              have mh526 := zk_f (fun z => absurd ((BR_E (n := 109) mk528 (by decide)).mp z) (by omega)) mh526
              have mh526 := zk_t ((BR_E (n := 102) mk528 (by decide)).mpr (by omega)) mh526
              unfold B_X12_readEnding_40 at mh526
              have mh526 := zk_f (fun z => absurd ((BR_E (n := 109) mk528 (by decide)).mp z) (by omega)) mh526
              have mh526 := zk_t ((BR_E (n := 102) mk528 (by decide)).mpr (by omega)) mh526
              unfold B_X12_readEnding_87 at mh526
              rw [hq] at mh526
              obtain ⟨_, mh526⟩ := zk_gd mh526
              obtain ⟨mf_16, me529, mh526⟩ := zk_lt mh526
              obtain ⟨_, mh526⟩ := zk_gd mh526
              obtain ⟨mv_18, me530, mh526⟩ := zk_lt mh526
              replace me530 := me530.symm
              subst me530
              obtain ⟨_, mh526⟩ := zk_gd mh526
              obtain ⟨mf_20, me531, mh526⟩ := zk_lt mh526
              obtain ⟨mv_21, me532, mh526⟩ := zk_lt mh526
              subst me532
              have mh526 := zk_f (fun z => absurd ((BR_E (n := 112) mk528 (by decide)).mp z) (by omega)) mh526
              unfold B_X12_readEnding_180 at mh526
              obtain ⟨mr_42, mu_43, mh533, mh526⟩ := zk_o2 mh526
              obtain mk534 := mb_look hT hR ck91 mh533
              have mh526 := zk_t ((BR_E (n := 119) mk534 (by decide)).mpr (by omega)) mh526
              unfold B_X12_readEnding_203 at mh526
              obtain ⟨mr_52, mu_53, mh535, mh526⟩ := zk_o2 mh526
              obtain mk536 := mb_look hT hR ck91 mh535
              have mh526 := zk_t ((BR_E (n := 119) mk536 (by decide)).mpr (by omega)) mh526
              unfold B_X12_readEnding_222 at mh526
              obtain ⟨_, mh526⟩ := zk_gd mh526
              obtain ⟨mf_57, me537, mh526⟩ := zk_lt mh526
              obtain ⟨mv_58, me538, mh526⟩ := zk_lt mh526
              subst me538
              simp only [Option.some.injEq, Prod.mk.injEq] at mh526
              obtain ⟨rfl, rfl, rfl, rfl, rfl⟩ := mh526
              subst me529
              subst me531
              subst me537
              first | (exfalso; omega) | (refine Or.inr ⟨rfl, ck98, by first | decide | omega, by first | decide | omega, _, by first | exact ⟨fun z => absurd z (by decide), fun _ => rfl⟩ | exact ⟨fun _ => by rw [(nm_digit (ts := ts) (tb := tb) (a := ((at_ + 1) + (1 : Int32))) (by omega)).1, BR_v mk534 (by have hbz : bZ ts tb ((at_ + 1) + (1 : Int32)) = (bz ts tb ((at_ + 1) + (1 : Int32))).toInt := rfl; omega)], fun z => absurd rfl z⟩ | exact ⟨fun _ => by rw [(nm_digit (ts := ts) (tb := tb) (a := ((at_ + 1) + (1 : Int32))) (by omega)).1, BR_v mk536 (by have hbz : bZ ts tb ((at_ + 1) + (1 : Int32)) = (bz ts tb ((at_ + 1) + (1 : Int32))).toInt := rfl; omega)], fun z => absurd rfl z⟩, k⟩)
            · exact (mk521 ck2).elim
          · replace cq101 := cq101.symm
            subst cq101
            replace cq102 := cq102.symm
            subst cq102
            replace h := zk_t (by decide) h
            unfold B_X8_readEnding_138 at h
            replace h := zk_t (by decide) h
            replace h := zk_o2 h
            obtain ⟨cu_38, cu_39, ch103, h⟩ := h
            rcases cb_expectN (n := 108) hT hf ck91 (by decide) ch103 with ⟨ck104, cq106, cq107, ck105⟩ | ⟨ck104, cq108, cq109⟩
            · replace cq106 := cq106.symm
              subst cq106
              replace cq107 := cq107.symm
              subst cq107
              have ck105a := ck105.1
              simp only [Option.some.injEq, Prod.mk.injEq] at h
              obtain ⟨rfl, rfl, rfl, rfl, rfl, rfl⟩ := h
              replace k := zk_o3 k
              obtain ⟨mr_43, mu_44, mu_45, mh539, k⟩ := k
              rcases mb_takesN (n := 61) hT hR hf hp (by decide) mh539 with ⟨mk540, mq542, mq543, mq544, mk541⟩ | ⟨mk540, _, _, _⟩
              · replace mq542 := mq542.symm
                subst mq542
                replace mq543 := mq543.symm
                subst mq543
                replace mq544 := mq544.symm
                subst mq544
                have mk541a := mk541.1
                replace k := zk_f (by decide) k
                replace k := zk_o5 k
                obtain ⟨mu_48, mu_49, mu_50, mu_51, mu_52, mh545, k⟩ := k
                unfold f_X12_readEnding at mh545
                unfold B_X12_readEnding_0 at mh545
                obtain ⟨mr_1, mu_2, mh546, mh545⟩ := zk_o2 mh545
                obtain mk547 := mb_look hT hR mk541 mh546
                have mh545 := zk_f (fun z => absurd ((BR_E (n := 109) mk547 (by decide)).mp z) (by omega)) mh545
                have mh545 := zk_t ((BR_E (n := 102) mk547 (by decide)).mpr (by omega)) mh545
                unfold B_X12_readEnding_40 at mh545
                have mh545 := zk_f (fun z => absurd ((BR_E (n := 109) mk547 (by decide)).mp z) (by omega)) mh545
                have mh545 := zk_t ((BR_E (n := 102) mk547 (by decide)).mpr (by omega)) mh545
                unfold B_X12_readEnding_87 at mh545
                rw [hq] at mh545
                obtain ⟨_, mh545⟩ := zk_gd mh545
                obtain ⟨mf_16, me548, mh545⟩ := zk_lt mh545
                obtain ⟨_, mh545⟩ := zk_gd mh545
                obtain ⟨mv_18, me549, mh545⟩ := zk_lt mh545
                replace me549 := me549.symm
                subst me549
                obtain ⟨_, mh545⟩ := zk_gd mh545
                obtain ⟨mf_20, me550, mh545⟩ := zk_lt mh545
                obtain ⟨mv_21, me551, mh545⟩ := zk_lt mh545
                subst me551
                have mh545 := zk_f (fun z => absurd ((BR_E (n := 112) mk547 (by decide)).mp z) (by omega)) mh545
                unfold B_X12_readEnding_180 at mh545
                obtain ⟨mr_42, mu_43, mh552, mh545⟩ := zk_o2 mh545
                obtain mk553 := mb_look hT hR ck91 mh552
                have mh545 := zk_f (fun z => absurd ((BR_E (n := 119) mk553 (by decide)).mp z) (by omega)) mh545
                obtain ⟨mr_46, mu_47, mh554, mh545⟩ := zk_o2 mh545
                obtain mk555 := mb_look hT hR ck91 mh554
                have mh545 := zk_t ((BR_E (n := 108) mk555 (by decide)).mpr (by omega)) mh545
                unfold B_X12_readEnding_203 at mh545
                obtain ⟨mr_52, mu_53, mh556, mh545⟩ := zk_o2 mh545
                obtain mk557 := mb_look hT hR ck91 mh556
                have mh545 := zk_f (fun z => absurd ((BR_E (n := 119) mk557 (by decide)).mp z) (by omega)) mh545
                unfold B_X12_readEnding_222 at mh545
                obtain ⟨_, mh545⟩ := zk_gd mh545
                obtain ⟨mf_57, me558, mh545⟩ := zk_lt mh545
                obtain ⟨mv_58, me559, mh545⟩ := zk_lt mh545
                subst me559
                simp only [Option.some.injEq, Prod.mk.injEq] at mh545
                obtain ⟨rfl, rfl, rfl, rfl, rfl⟩ := mh545
                subst me548
                subst me550
                subst me558
                first | (exfalso; omega) | (refine Or.inr ⟨rfl, ck105, by first | decide | omega, by first | decide | omega, _, by first | exact ⟨fun z => absurd z (by decide), fun _ => rfl⟩ | exact ⟨fun _ => by rw [(nm_digit (ts := ts) (tb := tb) (a := ((at_ + 1) + (1 : Int32))) (by omega)).1, BR_v mk553 (by have hbz : bZ ts tb ((at_ + 1) + (1 : Int32)) = (bz ts tb ((at_ + 1) + (1 : Int32))).toInt := rfl; omega)], fun z => absurd rfl z⟩ | exact ⟨fun _ => by rw [(nm_digit (ts := ts) (tb := tb) (a := ((at_ + 1) + (1 : Int32))) (by omega)).1, BR_v mk555 (by have hbz : bZ ts tb ((at_ + 1) + (1 : Int32)) = (bz ts tb ((at_ + 1) + (1 : Int32))).toInt := rfl; omega)], fun z => absurd rfl z⟩ | exact ⟨fun _ => by rw [(nm_digit (ts := ts) (tb := tb) (a := ((at_ + 1) + (1 : Int32))) (by omega)).1, BR_v mk557 (by have hbz : bZ ts tb ((at_ + 1) + (1 : Int32)) = (bz ts tb ((at_ + 1) + (1 : Int32))).toInt := rfl; omega)], fun z => absurd rfl z⟩, k⟩)
              · exact (mk540 ck2).elim
            · replace cq108 := cq108.symm
              subst cq108
              replace cq109 := cq109.symm
              subst cq109
              simp only [Option.some.injEq, Prod.mk.injEq] at h
              obtain ⟨rfl, rfl, rfl, rfl, rfl, rfl⟩ := h
              replace k := zk_o3 k
              obtain ⟨mr_43, mu_44, mu_45, mh560, k⟩ := k
              rcases mb_takesN (n := 61) hT hR hf hp (by decide) mh560 with ⟨mk561, mq563, mq564, mq565, mk562⟩ | ⟨mk561, _, _, _⟩
              · replace mq563 := mq563.symm
                subst mq563
                replace mq564 := mq564.symm
                subst mq564
                replace mq565 := mq565.symm
                subst mq565
                have mk562a := mk562.1
                replace k := zk_f (by decide) k
                replace k := zk_o5 k
                obtain ⟨mu_48, mu_49, mu_50, mu_51, mu_52, mh566, k⟩ := k
                unfold f_X12_readEnding at mh566
                unfold B_X12_readEnding_0 at mh566
                obtain ⟨mr_1, mu_2, mh567, mh566⟩ := zk_o2 mh566
                obtain mk568 := mb_look hT hR mk562 mh567
                have mh566 := zk_f (fun z => absurd ((BR_E (n := 109) mk568 (by decide)).mp z) (by omega)) mh566
                have mh566 := zk_t ((BR_E (n := 102) mk568 (by decide)).mpr (by omega)) mh566
                unfold B_X12_readEnding_40 at mh566
                have mh566 := zk_f (fun z => absurd ((BR_E (n := 109) mk568 (by decide)).mp z) (by omega)) mh566
                have mh566 := zk_t ((BR_E (n := 102) mk568 (by decide)).mpr (by omega)) mh566
                unfold B_X12_readEnding_87 at mh566
                rw [hq] at mh566
                obtain ⟨_, mh566⟩ := zk_gd mh566
                obtain ⟨mf_16, me569, mh566⟩ := zk_lt mh566
                obtain ⟨_, mh566⟩ := zk_gd mh566
                obtain ⟨mv_18, me570, mh566⟩ := zk_lt mh566
                replace me570 := me570.symm
                subst me570
                obtain ⟨_, mh566⟩ := zk_gd mh566
                obtain ⟨mf_20, me571, mh566⟩ := zk_lt mh566
                obtain ⟨mv_21, me572, mh566⟩ := zk_lt mh566
                subst me572
                have mh566 := zk_f (fun z => absurd ((BR_E (n := 112) mk568 (by decide)).mp z) (by omega)) mh566
                unfold B_X12_readEnding_180 at mh566
                obtain ⟨mr_42, mu_43, mh573, mh566⟩ := zk_o2 mh566
                obtain mk574 := mb_look hT hR ck91 mh573
                have mh566 := zk_f (fun z => absurd ((BR_E (n := 119) mk574 (by decide)).mp z) (by omega)) mh566
                obtain ⟨mr_46, mu_47, mh575, mh566⟩ := zk_o2 mh566
                obtain mk576 := mb_look hT hR ck91 mh575
                have mh566 := zk_f (fun z => absurd ((BR_E (n := 108) mk576 (by decide)).mp z) (by omega)) mh566
                obtain ⟨mu_50, mh577, mh566⟩ := zk_o1 mh566
                obtain mq578 := mb_wrongN hf mh577
                replace mq578 := mq578.symm
                subst mq578
                simp only [Option.some.injEq, Prod.mk.injEq] at mh566
                obtain ⟨rfl, rfl, rfl, rfl, rfl⟩ := mh566
                replace k := zk_o3 k
                obtain ⟨mr_54, mu_55, mu_56, mh579, k⟩ := k
                obtain ⟨mq580, mq581, mq582⟩ := mb_takesP (ck91).1 mh579
                replace mq580 := mq580.symm
                subst mq580
                replace mq581 := mq581.symm
                subst mq581
                replace mq582 := mq582.symm
                subst mq582
                replace k := zk_t (by decide) k
                subst me569
                subst me571
                replace k := Option.some.inj k
                rw [← k]
                first | (exfalso; omega) | exact Or.inl ⟨(ck91).1, rfl, ⟨by intro j hj; first | rfl | exact upd_n hj | exact (upd_n hj).trans (upd_n hj), by intro j hj; first | rfl | exact upd_n hj | exact (upd_n hj).trans (upd_n hj), by intro j hj; first | rfl | exact upd_n hj | exact (upd_n hj).trans (upd_n hj), by intro j hj; first | rfl | exact upd_n hj | exact (upd_n hj).trans (upd_n hj), by intro j hj; first | rfl | exact upd_n hj | exact (upd_n hj).trans (upd_n hj), by intro j hj; first | rfl | exact upd_n hj | exact (upd_n hj).trans (upd_n hj), by intro j hj; first | rfl | exact upd_n hj | exact (upd_n hj).trans (upd_n hj), by intro j hj; first | rfl | exact upd_n hj | exact (upd_n hj).trans (upd_n hj), fun _ _ => rfl, fun _ _ => rfl⟩⟩
              · exact (mk561 ck2).elim
        · replace cq94 := cq94.symm
          subst cq94
          replace cq95 := cq95.symm
          subst cq95
          replace h := zk_t (by decide) h
          replace h := zk_o2 h
          obtain ⟨cr_16, cu_17, ch110, h⟩ := h
          rcases cb_acceptN (n := 97) hT hf ck3 (by decide) ch110 with ⟨ck111, cq113, cq114, ck112⟩ | ⟨ck111, cq115, cq116⟩
          · replace cq113 := cq113.symm
            subst cq113
            replace cq114 := cq114.symm
            subst cq114
            have ck112a := ck112.1
            replace h := zk_f (by decide) h
            unfold B_X8_readEnding_106 at h
            replace h := zk_f (by decide) h
            unfold B_X8_readEnding_123 at h
            replace h := zk_o2 h
            obtain ⟨cr_33, cu_34, ch117, h⟩ := h
            rcases cb_acceptN (n := 119) hT hf ck112 (by decide) ch117 with ⟨ck118, cq120, cq121, ck119⟩ | ⟨ck118, cq122, cq123⟩
            · replace cq120 := cq120.symm
              subst cq120
              replace cq121 := cq121.symm
              subst cq121
              have ck119a := ck119.1
              replace h := zk_f (by decide) h
              unfold B_X8_readEnding_138 at h
              replace h := zk_f (by decide) h
              simp only [Option.some.injEq, Prod.mk.injEq] at h
              obtain ⟨rfl, rfl, rfl, rfl, rfl, rfl⟩ := h
              replace k := zk_o3 k
              obtain ⟨mr_43, mu_44, mu_45, mh583, k⟩ := k
              rcases mb_takesN (n := 61) hT hR hf hp (by decide) mh583 with ⟨mk584, mq586, mq587, mq588, mk585⟩ | ⟨mk584, _, _, _⟩
              · replace mq586 := mq586.symm
                subst mq586
                replace mq587 := mq587.symm
                subst mq587
                replace mq588 := mq588.symm
                subst mq588
                have mk585a := mk585.1
                replace k := zk_f (by decide) k
                replace k := zk_o5 k
                obtain ⟨mu_48, mu_49, mu_50, mu_51, mu_52, mh589, k⟩ := k
                unfold f_X12_readEnding at mh589
                unfold B_X12_readEnding_0 at mh589
                obtain ⟨mr_1, mu_2, mh590, mh589⟩ := zk_o2 mh589
                obtain mk591 := mb_look hT hR mk585 mh590
                have mh589 := zk_f (fun z => absurd ((BR_E (n := 109) mk591 (by decide)).mp z) (by omega)) mh589
                have mh589 := zk_f (fun z => absurd ((BR_E (n := 102) mk591 (by decide)).mp z) (by omega)) mh589
                have mh589 := zk_t ((BR_E (n := 97) mk591 (by decide)).mpr (by omega)) mh589
                unfold B_X12_readEnding_40 at mh589
                have mh589 := zk_f (fun z => absurd ((BR_E (n := 109) mk591 (by decide)).mp z) (by omega)) mh589
                have mh589 := zk_f (fun z => absurd ((BR_E (n := 102) mk591 (by decide)).mp z) (by omega)) mh589
                have mh589 := zk_t ((BR_E (n := 97) mk591 (by decide)).mpr (by omega)) mh589
                unfold B_X12_readEnding_87 at mh589
                rw [hq] at mh589
                obtain ⟨_, mh589⟩ := zk_gd mh589
                obtain ⟨mf_16, me592, mh589⟩ := zk_lt mh589
                obtain ⟨_, mh589⟩ := zk_gd mh589
                obtain ⟨mv_18, me593, mh589⟩ := zk_lt mh589
                replace me593 := me593.symm
                subst me593
                obtain ⟨_, mh589⟩ := zk_gd mh589
                obtain ⟨mf_20, me594, mh589⟩ := zk_lt mh589
                obtain ⟨mv_21, me595, mh589⟩ := zk_lt mh589
                subst me595
                have mh589 := zk_f (fun z => absurd ((BR_E (n := 112) mk591 (by decide)).mp z) (by omega)) mh589
                unfold B_X12_readEnding_180 at mh589
                obtain ⟨mr_42, mu_43, mh596, mh589⟩ := zk_o2 mh589
                obtain mk597 := mb_look hT hR ck112 mh596
                have mh589 := zk_t ((BR_E (n := 119) mk597 (by decide)).mpr (by omega)) mh589
                unfold B_X12_readEnding_203 at mh589
                obtain ⟨mr_52, mu_53, mh598, mh589⟩ := zk_o2 mh589
                obtain mk599 := mb_look hT hR ck112 mh598
                have mh589 := zk_t ((BR_E (n := 119) mk599 (by decide)).mpr (by omega)) mh589
                unfold B_X12_readEnding_222 at mh589
                obtain ⟨_, mh589⟩ := zk_gd mh589
                obtain ⟨mf_57, me600, mh589⟩ := zk_lt mh589
                obtain ⟨mv_58, me601, mh589⟩ := zk_lt mh589
                subst me601
                simp only [Option.some.injEq, Prod.mk.injEq] at mh589
                obtain ⟨rfl, rfl, rfl, rfl, rfl⟩ := mh589
                subst me592
                subst me594
                subst me600
                first | (exfalso; omega) | (refine Or.inr ⟨rfl, ck119, by first | decide | omega, by first | decide | omega, _, by first | exact ⟨fun z => absurd z (by decide), fun _ => rfl⟩ | exact ⟨fun _ => by rw [(nm_digit (ts := ts) (tb := tb) (a := ((at_ + 1) + (1 : Int32))) (by omega)).1, BR_v mk597 (by have hbz : bZ ts tb ((at_ + 1) + (1 : Int32)) = (bz ts tb ((at_ + 1) + (1 : Int32))).toInt := rfl; omega)], fun z => absurd rfl z⟩ | exact ⟨fun _ => by rw [(nm_digit (ts := ts) (tb := tb) (a := ((at_ + 1) + (1 : Int32))) (by omega)).1, BR_v mk599 (by have hbz : bZ ts tb ((at_ + 1) + (1 : Int32)) = (bz ts tb ((at_ + 1) + (1 : Int32))).toInt := rfl; omega)], fun z => absurd rfl z⟩, k⟩)
              · exact (mk584 ck2).elim
            · replace cq122 := cq122.symm
              subst cq122
              replace cq123 := cq123.symm
              subst cq123
              replace h := zk_t (by decide) h
              unfold B_X8_readEnding_138 at h
              replace h := zk_t (by decide) h
              replace h := zk_o2 h
              obtain ⟨cu_38, cu_39, ch124, h⟩ := h
              rcases cb_expectN (n := 108) hT hf ck112 (by decide) ch124 with ⟨ck125, cq127, cq128, ck126⟩ | ⟨ck125, cq129, cq130⟩
              · replace cq127 := cq127.symm
                subst cq127
                replace cq128 := cq128.symm
                subst cq128
                have ck126a := ck126.1
                simp only [Option.some.injEq, Prod.mk.injEq] at h
                obtain ⟨rfl, rfl, rfl, rfl, rfl, rfl⟩ := h
                replace k := zk_o3 k
                obtain ⟨mr_43, mu_44, mu_45, mh602, k⟩ := k
                rcases mb_takesN (n := 61) hT hR hf hp (by decide) mh602 with ⟨mk603, mq605, mq606, mq607, mk604⟩ | ⟨mk603, _, _, _⟩
                · replace mq605 := mq605.symm
                  subst mq605
                  replace mq606 := mq606.symm
                  subst mq606
                  replace mq607 := mq607.symm
                  subst mq607
                  have mk604a := mk604.1
                  replace k := zk_f (by decide) k
                  replace k := zk_o5 k
                  obtain ⟨mu_48, mu_49, mu_50, mu_51, mu_52, mh608, k⟩ := k
                  unfold f_X12_readEnding at mh608
                  unfold B_X12_readEnding_0 at mh608
                  obtain ⟨mr_1, mu_2, mh609, mh608⟩ := zk_o2 mh608
                  obtain mk610 := mb_look hT hR mk604 mh609
                  have mh608 := zk_f (fun z => absurd ((BR_E (n := 109) mk610 (by decide)).mp z) (by omega)) mh608
                  have mh608 := zk_f (fun z => absurd ((BR_E (n := 102) mk610 (by decide)).mp z) (by omega)) mh608
                  have mh608 := zk_t ((BR_E (n := 97) mk610 (by decide)).mpr (by omega)) mh608
                  unfold B_X12_readEnding_40 at mh608
                  have mh608 := zk_f (fun z => absurd ((BR_E (n := 109) mk610 (by decide)).mp z) (by omega)) mh608
                  have mh608 := zk_f (fun z => absurd ((BR_E (n := 102) mk610 (by decide)).mp z) (by omega)) mh608
                  have mh608 := zk_t ((BR_E (n := 97) mk610 (by decide)).mpr (by omega)) mh608
                  unfold B_X12_readEnding_87 at mh608
                  rw [hq] at mh608
                  obtain ⟨_, mh608⟩ := zk_gd mh608
                  obtain ⟨mf_16, me611, mh608⟩ := zk_lt mh608
                  obtain ⟨_, mh608⟩ := zk_gd mh608
                  obtain ⟨mv_18, me612, mh608⟩ := zk_lt mh608
                  replace me612 := me612.symm
                  subst me612
                  obtain ⟨_, mh608⟩ := zk_gd mh608
                  obtain ⟨mf_20, me613, mh608⟩ := zk_lt mh608
                  obtain ⟨mv_21, me614, mh608⟩ := zk_lt mh608
                  subst me614
                  have mh608 := zk_f (fun z => absurd ((BR_E (n := 112) mk610 (by decide)).mp z) (by omega)) mh608
                  unfold B_X12_readEnding_180 at mh608
                  obtain ⟨mr_42, mu_43, mh615, mh608⟩ := zk_o2 mh608
                  obtain mk616 := mb_look hT hR ck112 mh615
                  have mh608 := zk_f (fun z => absurd ((BR_E (n := 119) mk616 (by decide)).mp z) (by omega)) mh608
                  obtain ⟨mr_46, mu_47, mh617, mh608⟩ := zk_o2 mh608
                  obtain mk618 := mb_look hT hR ck112 mh617
                  have mh608 := zk_t ((BR_E (n := 108) mk618 (by decide)).mpr (by omega)) mh608
                  unfold B_X12_readEnding_203 at mh608
                  obtain ⟨mr_52, mu_53, mh619, mh608⟩ := zk_o2 mh608
                  obtain mk620 := mb_look hT hR ck112 mh619
                  have mh608 := zk_f (fun z => absurd ((BR_E (n := 119) mk620 (by decide)).mp z) (by omega)) mh608
                  unfold B_X12_readEnding_222 at mh608
                  obtain ⟨_, mh608⟩ := zk_gd mh608
                  obtain ⟨mf_57, me621, mh608⟩ := zk_lt mh608
                  obtain ⟨mv_58, me622, mh608⟩ := zk_lt mh608
                  subst me622
                  simp only [Option.some.injEq, Prod.mk.injEq] at mh608
                  obtain ⟨rfl, rfl, rfl, rfl, rfl⟩ := mh608
                  subst me611
                  subst me613
                  subst me621
                  first | (exfalso; omega) | (refine Or.inr ⟨rfl, ck126, by first | decide | omega, by first | decide | omega, _, by first | exact ⟨fun z => absurd z (by decide), fun _ => rfl⟩ | exact ⟨fun _ => by rw [(nm_digit (ts := ts) (tb := tb) (a := ((at_ + 1) + (1 : Int32))) (by omega)).1, BR_v mk616 (by have hbz : bZ ts tb ((at_ + 1) + (1 : Int32)) = (bz ts tb ((at_ + 1) + (1 : Int32))).toInt := rfl; omega)], fun z => absurd rfl z⟩ | exact ⟨fun _ => by rw [(nm_digit (ts := ts) (tb := tb) (a := ((at_ + 1) + (1 : Int32))) (by omega)).1, BR_v mk618 (by have hbz : bZ ts tb ((at_ + 1) + (1 : Int32)) = (bz ts tb ((at_ + 1) + (1 : Int32))).toInt := rfl; omega)], fun z => absurd rfl z⟩ | exact ⟨fun _ => by rw [(nm_digit (ts := ts) (tb := tb) (a := ((at_ + 1) + (1 : Int32))) (by omega)).1, BR_v mk620 (by have hbz : bZ ts tb ((at_ + 1) + (1 : Int32)) = (bz ts tb ((at_ + 1) + (1 : Int32))).toInt := rfl; omega)], fun z => absurd rfl z⟩, k⟩)
                · exact (mk603 ck2).elim
              · replace cq129 := cq129.symm
                subst cq129
                replace cq130 := cq130.symm
                subst cq130
                simp only [Option.some.injEq, Prod.mk.injEq] at h
                obtain ⟨rfl, rfl, rfl, rfl, rfl, rfl⟩ := h
                replace k := zk_o3 k
                obtain ⟨mr_43, mu_44, mu_45, mh623, k⟩ := k
                rcases mb_takesN (n := 61) hT hR hf hp (by decide) mh623 with ⟨mk624, mq626, mq627, mq628, mk625⟩ | ⟨mk624, _, _, _⟩
                · replace mq626 := mq626.symm
                  subst mq626
                  replace mq627 := mq627.symm
                  subst mq627
                  replace mq628 := mq628.symm
                  subst mq628
                  have mk625a := mk625.1
                  replace k := zk_f (by decide) k
                  replace k := zk_o5 k
                  obtain ⟨mu_48, mu_49, mu_50, mu_51, mu_52, mh629, k⟩ := k
                  unfold f_X12_readEnding at mh629
                  unfold B_X12_readEnding_0 at mh629
                  obtain ⟨mr_1, mu_2, mh630, mh629⟩ := zk_o2 mh629
                  obtain mk631 := mb_look hT hR mk625 mh630
                  have mh629 := zk_f (fun z => absurd ((BR_E (n := 109) mk631 (by decide)).mp z) (by omega)) mh629
                  have mh629 := zk_f (fun z => absurd ((BR_E (n := 102) mk631 (by decide)).mp z) (by omega)) mh629
                  have mh629 := zk_t ((BR_E (n := 97) mk631 (by decide)).mpr (by omega)) mh629
                  unfold B_X12_readEnding_40 at mh629
                  have mh629 := zk_f (fun z => absurd ((BR_E (n := 109) mk631 (by decide)).mp z) (by omega)) mh629
                  have mh629 := zk_f (fun z => absurd ((BR_E (n := 102) mk631 (by decide)).mp z) (by omega)) mh629
                  have mh629 := zk_t ((BR_E (n := 97) mk631 (by decide)).mpr (by omega)) mh629
                  unfold B_X12_readEnding_87 at mh629
                  rw [hq] at mh629
                  obtain ⟨_, mh629⟩ := zk_gd mh629
                  obtain ⟨mf_16, me632, mh629⟩ := zk_lt mh629
                  obtain ⟨_, mh629⟩ := zk_gd mh629
                  obtain ⟨mv_18, me633, mh629⟩ := zk_lt mh629
                  replace me633 := me633.symm
                  subst me633
                  obtain ⟨_, mh629⟩ := zk_gd mh629
                  obtain ⟨mf_20, me634, mh629⟩ := zk_lt mh629
                  obtain ⟨mv_21, me635, mh629⟩ := zk_lt mh629
                  subst me635
                  have mh629 := zk_f (fun z => absurd ((BR_E (n := 112) mk631 (by decide)).mp z) (by omega)) mh629
                  unfold B_X12_readEnding_180 at mh629
                  obtain ⟨mr_42, mu_43, mh636, mh629⟩ := zk_o2 mh629
                  obtain mk637 := mb_look hT hR ck112 mh636
                  have mh629 := zk_f (fun z => absurd ((BR_E (n := 119) mk637 (by decide)).mp z) (by omega)) mh629
                  obtain ⟨mr_46, mu_47, mh638, mh629⟩ := zk_o2 mh629
                  obtain mk639 := mb_look hT hR ck112 mh638
                  have mh629 := zk_f (fun z => absurd ((BR_E (n := 108) mk639 (by decide)).mp z) (by omega)) mh629
                  obtain ⟨mu_50, mh640, mh629⟩ := zk_o1 mh629
                  obtain mq641 := mb_wrongN hf mh640
                  replace mq641 := mq641.symm
                  subst mq641
                  simp only [Option.some.injEq, Prod.mk.injEq] at mh629
                  obtain ⟨rfl, rfl, rfl, rfl, rfl⟩ := mh629
                  replace k := zk_o3 k
                  obtain ⟨mr_54, mu_55, mu_56, mh642, k⟩ := k
                  obtain ⟨mq643, mq644, mq645⟩ := mb_takesP (ck112).1 mh642
                  replace mq643 := mq643.symm
                  subst mq643
                  replace mq644 := mq644.symm
                  subst mq644
                  replace mq645 := mq645.symm
                  subst mq645
                  replace k := zk_t (by decide) k
                  subst me632
                  subst me634
                  replace k := Option.some.inj k
                  rw [← k]
                  first | (exfalso; omega) | exact Or.inl ⟨(ck112).1, rfl, ⟨by intro j hj; first | rfl | exact upd_n hj | exact (upd_n hj).trans (upd_n hj), by intro j hj; first | rfl | exact upd_n hj | exact (upd_n hj).trans (upd_n hj), by intro j hj; first | rfl | exact upd_n hj | exact (upd_n hj).trans (upd_n hj), by intro j hj; first | rfl | exact upd_n hj | exact (upd_n hj).trans (upd_n hj), by intro j hj; first | rfl | exact upd_n hj | exact (upd_n hj).trans (upd_n hj), by intro j hj; first | rfl | exact upd_n hj | exact (upd_n hj).trans (upd_n hj), by intro j hj; first | rfl | exact upd_n hj | exact (upd_n hj).trans (upd_n hj), by intro j hj; first | rfl | exact upd_n hj | exact (upd_n hj).trans (upd_n hj), fun _ _ => rfl, fun _ _ => rfl⟩⟩
                · exact (mk624 ck2).elim
          · replace cq115 := cq115.symm
            subst cq115
            replace cq116 := cq116.symm
            subst cq116
            replace h := zk_t (by decide) h
            unfold B_X8_readEnding_106 at h
            replace h := zk_t (by decide) h
            replace h := zk_o2 h
            obtain ⟨cu_30, cu_31, ch131, h⟩ := h
            rcases cb_expectN (n := 100) hT hf ck3 (by decide) ch131 with ⟨ck132, cq134, cq135, ck133⟩ | ⟨ck132, cq136, cq137⟩
            · replace cq134 := cq134.symm
              subst cq134
              replace cq135 := cq135.symm
              subst cq135
              have ck133a := ck133.1
              unfold B_X8_readEnding_123 at h
              replace h := zk_o2 h
              obtain ⟨cr_33, cu_34, ch138, h⟩ := h
              rcases cb_acceptN (n := 119) hT hf ck133 (by decide) ch138 with ⟨ck139, cq141, cq142, ck140⟩ | ⟨ck139, cq143, cq144⟩
              · replace cq141 := cq141.symm
                subst cq141
                replace cq142 := cq142.symm
                subst cq142
                have ck140a := ck140.1
                replace h := zk_f (by decide) h
                unfold B_X8_readEnding_138 at h
                replace h := zk_f (by decide) h
                simp only [Option.some.injEq, Prod.mk.injEq] at h
                obtain ⟨rfl, rfl, rfl, rfl, rfl, rfl⟩ := h
                replace k := zk_o3 k
                obtain ⟨mr_43, mu_44, mu_45, mh646, k⟩ := k
                rcases mb_takesN (n := 61) hT hR hf hp (by decide) mh646 with ⟨mk647, mq649, mq650, mq651, mk648⟩ | ⟨mk647, _, _, _⟩
                · replace mq649 := mq649.symm
                  subst mq649
                  replace mq650 := mq650.symm
                  subst mq650
                  replace mq651 := mq651.symm
                  subst mq651
                  have mk648a := mk648.1
                  replace k := zk_f (by decide) k
                  replace k := zk_o5 k
                  obtain ⟨mu_48, mu_49, mu_50, mu_51, mu_52, mh652, k⟩ := k
                  unfold f_X12_readEnding at mh652
                  unfold B_X12_readEnding_0 at mh652
                  obtain ⟨mr_1, mu_2, mh653, mh652⟩ := zk_o2 mh652
                  obtain mk654 := mb_look hT hR mk648 mh653
                  have mh652 := zk_f (fun z => absurd ((BR_E (n := 109) mk654 (by decide)).mp z) (by omega)) mh652
                  have mh652 := zk_f (fun z => absurd ((BR_E (n := 102) mk654 (by decide)).mp z) (by omega)) mh652
                  have mh652 := zk_f (fun z => absurd ((BR_E (n := 97) mk654 (by decide)).mp z) (by omega)) mh652
                  have mh652 := zk_t ((BR_E (n := 100) mk654 (by decide)).mpr (by omega)) mh652
                  unfold B_X12_readEnding_40 at mh652
                  have mh652 := zk_f (fun z => absurd ((BR_E (n := 109) mk654 (by decide)).mp z) (by omega)) mh652
                  have mh652 := zk_f (fun z => absurd ((BR_E (n := 102) mk654 (by decide)).mp z) (by omega)) mh652
                  have mh652 := zk_f (fun z => absurd ((BR_E (n := 97) mk654 (by decide)).mp z) (by omega)) mh652
                  have mh652 := zk_t ((BR_E (n := 100) mk654 (by decide)).mpr (by omega)) mh652
                  unfold B_X12_readEnding_87 at mh652
                  rw [hq] at mh652
                  obtain ⟨_, mh652⟩ := zk_gd mh652
                  obtain ⟨mf_16, me655, mh652⟩ := zk_lt mh652
                  obtain ⟨_, mh652⟩ := zk_gd mh652
                  obtain ⟨mv_18, me656, mh652⟩ := zk_lt mh652
                  replace me656 := me656.symm
                  subst me656
                  obtain ⟨_, mh652⟩ := zk_gd mh652
                  obtain ⟨mf_20, me657, mh652⟩ := zk_lt mh652
                  obtain ⟨mv_21, me658, mh652⟩ := zk_lt mh652
                  subst me658
                  have mh652 := zk_f (fun z => absurd ((BR_E (n := 112) mk654 (by decide)).mp z) (by omega)) mh652
                  unfold B_X12_readEnding_180 at mh652
                  obtain ⟨mr_42, mu_43, mh659, mh652⟩ := zk_o2 mh652
                  obtain mk660 := mb_look hT hR ck133 mh659
                  have mh652 := zk_t ((BR_E (n := 119) mk660 (by decide)).mpr (by omega)) mh652
                  unfold B_X12_readEnding_203 at mh652
                  obtain ⟨mr_52, mu_53, mh661, mh652⟩ := zk_o2 mh652
                  obtain mk662 := mb_look hT hR ck133 mh661
                  have mh652 := zk_t ((BR_E (n := 119) mk662 (by decide)).mpr (by omega)) mh652
                  unfold B_X12_readEnding_222 at mh652
                  obtain ⟨_, mh652⟩ := zk_gd mh652
                  obtain ⟨mf_57, me663, mh652⟩ := zk_lt mh652
                  obtain ⟨mv_58, me664, mh652⟩ := zk_lt mh652
                  subst me664
                  simp only [Option.some.injEq, Prod.mk.injEq] at mh652
                  obtain ⟨rfl, rfl, rfl, rfl, rfl⟩ := mh652
                  subst me655
                  subst me657
                  subst me663
                  first | (exfalso; omega) | (refine Or.inr ⟨rfl, ck140, by first | decide | omega, by first | decide | omega, _, by first | exact ⟨fun z => absurd z (by decide), fun _ => rfl⟩ | exact ⟨fun _ => by rw [(nm_digit (ts := ts) (tb := tb) (a := ((at_ + 1) + (1 : Int32))) (by omega)).1, BR_v mk660 (by have hbz : bZ ts tb ((at_ + 1) + (1 : Int32)) = (bz ts tb ((at_ + 1) + (1 : Int32))).toInt := rfl; omega)], fun z => absurd rfl z⟩ | exact ⟨fun _ => by rw [(nm_digit (ts := ts) (tb := tb) (a := ((at_ + 1) + (1 : Int32))) (by omega)).1, BR_v mk662 (by have hbz : bZ ts tb ((at_ + 1) + (1 : Int32)) = (bz ts tb ((at_ + 1) + (1 : Int32))).toInt := rfl; omega)], fun z => absurd rfl z⟩, k⟩)
                · exact (mk647 ck2).elim
              · replace cq143 := cq143.symm
                subst cq143
                replace cq144 := cq144.symm
                subst cq144
                replace h := zk_t (by decide) h
                unfold B_X8_readEnding_138 at h
                replace h := zk_t (by decide) h
                replace h := zk_o2 h
                obtain ⟨cu_38, cu_39, ch145, h⟩ := h
                rcases cb_expectN (n := 108) hT hf ck133 (by decide) ch145 with ⟨ck146, cq148, cq149, ck147⟩ | ⟨ck146, cq150, cq151⟩
                · replace cq148 := cq148.symm
                  subst cq148
                  replace cq149 := cq149.symm
                  subst cq149
                  have ck147a := ck147.1
                  simp only [Option.some.injEq, Prod.mk.injEq] at h
                  obtain ⟨rfl, rfl, rfl, rfl, rfl, rfl⟩ := h
                  replace k := zk_o3 k
                  obtain ⟨mr_43, mu_44, mu_45, mh665, k⟩ := k
                  rcases mb_takesN (n := 61) hT hR hf hp (by decide) mh665 with ⟨mk666, mq668, mq669, mq670, mk667⟩ | ⟨mk666, _, _, _⟩
                  · replace mq668 := mq668.symm
                    subst mq668
                    replace mq669 := mq669.symm
                    subst mq669
                    replace mq670 := mq670.symm
                    subst mq670
                    have mk667a := mk667.1
                    replace k := zk_f (by decide) k
                    replace k := zk_o5 k
                    obtain ⟨mu_48, mu_49, mu_50, mu_51, mu_52, mh671, k⟩ := k
                    unfold f_X12_readEnding at mh671
                    unfold B_X12_readEnding_0 at mh671
                    obtain ⟨mr_1, mu_2, mh672, mh671⟩ := zk_o2 mh671
                    obtain mk673 := mb_look hT hR mk667 mh672
                    have mh671 := zk_f (fun z => absurd ((BR_E (n := 109) mk673 (by decide)).mp z) (by omega)) mh671
                    have mh671 := zk_f (fun z => absurd ((BR_E (n := 102) mk673 (by decide)).mp z) (by omega)) mh671
                    have mh671 := zk_f (fun z => absurd ((BR_E (n := 97) mk673 (by decide)).mp z) (by omega)) mh671
                    have mh671 := zk_t ((BR_E (n := 100) mk673 (by decide)).mpr (by omega)) mh671
                    unfold B_X12_readEnding_40 at mh671
                    have mh671 := zk_f (fun z => absurd ((BR_E (n := 109) mk673 (by decide)).mp z) (by omega)) mh671
                    have mh671 := zk_f (fun z => absurd ((BR_E (n := 102) mk673 (by decide)).mp z) (by omega)) mh671
                    have mh671 := zk_f (fun z => absurd ((BR_E (n := 97) mk673 (by decide)).mp z) (by omega)) mh671
                    have mh671 := zk_t ((BR_E (n := 100) mk673 (by decide)).mpr (by omega)) mh671
                    unfold B_X12_readEnding_87 at mh671
                    rw [hq] at mh671
                    obtain ⟨_, mh671⟩ := zk_gd mh671
                    obtain ⟨mf_16, me674, mh671⟩ := zk_lt mh671
                    obtain ⟨_, mh671⟩ := zk_gd mh671
                    obtain ⟨mv_18, me675, mh671⟩ := zk_lt mh671
                    replace me675 := me675.symm
                    subst me675
                    obtain ⟨_, mh671⟩ := zk_gd mh671
                    obtain ⟨mf_20, me676, mh671⟩ := zk_lt mh671
                    obtain ⟨mv_21, me677, mh671⟩ := zk_lt mh671
                    subst me677
                    have mh671 := zk_f (fun z => absurd ((BR_E (n := 112) mk673 (by decide)).mp z) (by omega)) mh671
                    unfold B_X12_readEnding_180 at mh671
                    obtain ⟨mr_42, mu_43, mh678, mh671⟩ := zk_o2 mh671
                    obtain mk679 := mb_look hT hR ck133 mh678
                    have mh671 := zk_f (fun z => absurd ((BR_E (n := 119) mk679 (by decide)).mp z) (by omega)) mh671
                    obtain ⟨mr_46, mu_47, mh680, mh671⟩ := zk_o2 mh671
                    obtain mk681 := mb_look hT hR ck133 mh680
                    have mh671 := zk_t ((BR_E (n := 108) mk681 (by decide)).mpr (by omega)) mh671
                    unfold B_X12_readEnding_203 at mh671
                    obtain ⟨mr_52, mu_53, mh682, mh671⟩ := zk_o2 mh671
                    obtain mk683 := mb_look hT hR ck133 mh682
                    have mh671 := zk_f (fun z => absurd ((BR_E (n := 119) mk683 (by decide)).mp z) (by omega)) mh671
                    unfold B_X12_readEnding_222 at mh671
                    obtain ⟨_, mh671⟩ := zk_gd mh671
                    obtain ⟨mf_57, me684, mh671⟩ := zk_lt mh671
                    obtain ⟨mv_58, me685, mh671⟩ := zk_lt mh671
                    subst me685
                    simp only [Option.some.injEq, Prod.mk.injEq] at mh671
                    obtain ⟨rfl, rfl, rfl, rfl, rfl⟩ := mh671
                    subst me674
                    subst me676
                    subst me684
                    first | (exfalso; omega) | (refine Or.inr ⟨rfl, ck147, by first | decide | omega, by first | decide | omega, _, by first | exact ⟨fun z => absurd z (by decide), fun _ => rfl⟩ | exact ⟨fun _ => by rw [(nm_digit (ts := ts) (tb := tb) (a := ((at_ + 1) + (1 : Int32))) (by omega)).1, BR_v mk679 (by have hbz : bZ ts tb ((at_ + 1) + (1 : Int32)) = (bz ts tb ((at_ + 1) + (1 : Int32))).toInt := rfl; omega)], fun z => absurd rfl z⟩ | exact ⟨fun _ => by rw [(nm_digit (ts := ts) (tb := tb) (a := ((at_ + 1) + (1 : Int32))) (by omega)).1, BR_v mk681 (by have hbz : bZ ts tb ((at_ + 1) + (1 : Int32)) = (bz ts tb ((at_ + 1) + (1 : Int32))).toInt := rfl; omega)], fun z => absurd rfl z⟩ | exact ⟨fun _ => by rw [(nm_digit (ts := ts) (tb := tb) (a := ((at_ + 1) + (1 : Int32))) (by omega)).1, BR_v mk683 (by have hbz : bZ ts tb ((at_ + 1) + (1 : Int32)) = (bz ts tb ((at_ + 1) + (1 : Int32))).toInt := rfl; omega)], fun z => absurd rfl z⟩, k⟩)
                  · exact (mk666 ck2).elim
                · replace cq150 := cq150.symm
                  subst cq150
                  replace cq151 := cq151.symm
                  subst cq151
                  simp only [Option.some.injEq, Prod.mk.injEq] at h
                  obtain ⟨rfl, rfl, rfl, rfl, rfl, rfl⟩ := h
                  replace k := zk_o3 k
                  obtain ⟨mr_43, mu_44, mu_45, mh686, k⟩ := k
                  rcases mb_takesN (n := 61) hT hR hf hp (by decide) mh686 with ⟨mk687, mq689, mq690, mq691, mk688⟩ | ⟨mk687, _, _, _⟩
                  · replace mq689 := mq689.symm
                    subst mq689
                    replace mq690 := mq690.symm
                    subst mq690
                    replace mq691 := mq691.symm
                    subst mq691
                    have mk688a := mk688.1
                    replace k := zk_f (by decide) k
                    replace k := zk_o5 k
                    obtain ⟨mu_48, mu_49, mu_50, mu_51, mu_52, mh692, k⟩ := k
                    unfold f_X12_readEnding at mh692
                    unfold B_X12_readEnding_0 at mh692
                    obtain ⟨mr_1, mu_2, mh693, mh692⟩ := zk_o2 mh692
                    obtain mk694 := mb_look hT hR mk688 mh693
                    have mh692 := zk_f (fun z => absurd ((BR_E (n := 109) mk694 (by decide)).mp z) (by omega)) mh692
                    have mh692 := zk_f (fun z => absurd ((BR_E (n := 102) mk694 (by decide)).mp z) (by omega)) mh692
                    have mh692 := zk_f (fun z => absurd ((BR_E (n := 97) mk694 (by decide)).mp z) (by omega)) mh692
                    have mh692 := zk_t ((BR_E (n := 100) mk694 (by decide)).mpr (by omega)) mh692
                    unfold B_X12_readEnding_40 at mh692
                    have mh692 := zk_f (fun z => absurd ((BR_E (n := 109) mk694 (by decide)).mp z) (by omega)) mh692
                    have mh692 := zk_f (fun z => absurd ((BR_E (n := 102) mk694 (by decide)).mp z) (by omega)) mh692
                    have mh692 := zk_f (fun z => absurd ((BR_E (n := 97) mk694 (by decide)).mp z) (by omega)) mh692
                    have mh692 := zk_t ((BR_E (n := 100) mk694 (by decide)).mpr (by omega)) mh692
                    unfold B_X12_readEnding_87 at mh692
                    rw [hq] at mh692
                    obtain ⟨_, mh692⟩ := zk_gd mh692
                    obtain ⟨mf_16, me695, mh692⟩ := zk_lt mh692
                    obtain ⟨_, mh692⟩ := zk_gd mh692
                    obtain ⟨mv_18, me696, mh692⟩ := zk_lt mh692
                    replace me696 := me696.symm
                    subst me696
                    obtain ⟨_, mh692⟩ := zk_gd mh692
                    obtain ⟨mf_20, me697, mh692⟩ := zk_lt mh692
                    obtain ⟨mv_21, me698, mh692⟩ := zk_lt mh692
                    subst me698
                    have mh692 := zk_f (fun z => absurd ((BR_E (n := 112) mk694 (by decide)).mp z) (by omega)) mh692
                    unfold B_X12_readEnding_180 at mh692
                    obtain ⟨mr_42, mu_43, mh699, mh692⟩ := zk_o2 mh692
                    obtain mk700 := mb_look hT hR ck133 mh699
                    have mh692 := zk_f (fun z => absurd ((BR_E (n := 119) mk700 (by decide)).mp z) (by omega)) mh692
                    obtain ⟨mr_46, mu_47, mh701, mh692⟩ := zk_o2 mh692
                    obtain mk702 := mb_look hT hR ck133 mh701
                    have mh692 := zk_f (fun z => absurd ((BR_E (n := 108) mk702 (by decide)).mp z) (by omega)) mh692
                    obtain ⟨mu_50, mh703, mh692⟩ := zk_o1 mh692
                    obtain mq704 := mb_wrongN hf mh703
                    replace mq704 := mq704.symm
                    subst mq704
                    simp only [Option.some.injEq, Prod.mk.injEq] at mh692
                    obtain ⟨rfl, rfl, rfl, rfl, rfl⟩ := mh692
                    replace k := zk_o3 k
                    obtain ⟨mr_54, mu_55, mu_56, mh705, k⟩ := k
                    obtain ⟨mq706, mq707, mq708⟩ := mb_takesP (ck133).1 mh705
                    replace mq706 := mq706.symm
                    subst mq706
                    replace mq707 := mq707.symm
                    subst mq707
                    replace mq708 := mq708.symm
                    subst mq708
                    replace k := zk_t (by decide) k
                    subst me695
                    subst me697
                    replace k := Option.some.inj k
                    rw [← k]
                    first | (exfalso; omega) | exact Or.inl ⟨(ck133).1, rfl, ⟨by intro j hj; first | rfl | exact upd_n hj | exact (upd_n hj).trans (upd_n hj), by intro j hj; first | rfl | exact upd_n hj | exact (upd_n hj).trans (upd_n hj), by intro j hj; first | rfl | exact upd_n hj | exact (upd_n hj).trans (upd_n hj), by intro j hj; first | rfl | exact upd_n hj | exact (upd_n hj).trans (upd_n hj), by intro j hj; first | rfl | exact upd_n hj | exact (upd_n hj).trans (upd_n hj), by intro j hj; first | rfl | exact upd_n hj | exact (upd_n hj).trans (upd_n hj), by intro j hj; first | rfl | exact upd_n hj | exact (upd_n hj).trans (upd_n hj), by intro j hj; first | rfl | exact upd_n hj | exact (upd_n hj).trans (upd_n hj), fun _ _ => rfl, fun _ _ => rfl⟩⟩
                  · exact (mk687 ck2).elim
            · replace cq136 := cq136.symm
              subst cq136
              replace cq137 := cq137.symm
              subst cq137
              unfold B_X8_readEnding_123 at h
              replace h := zk_o2 h
              obtain ⟨cr_33, cu_34, ch152, h⟩ := h
              obtain ⟨cq153, cq154⟩ := cb_acceptP (ck3).1 ch152
              replace cq153 := cq153.symm
              subst cq153
              replace cq154 := cq154.symm
              subst cq154
              replace h := zk_t (by decide) h
              unfold B_X8_readEnding_138 at h
              replace h := zk_t (by decide) h
              replace h := zk_o2 h
              obtain ⟨cu_38, cu_39, ch155, h⟩ := h
              obtain ⟨cq156, cq157⟩ := cb_expectP (ck3).1 ch155
              replace cq156 := cq156.symm
              subst cq156
              replace cq157 := cq157.symm
              subst cq157
              simp only [Option.some.injEq, Prod.mk.injEq] at h
              obtain ⟨rfl, rfl, rfl, rfl, rfl, rfl⟩ := h
              replace k := zk_o3 k
              obtain ⟨mr_43, mu_44, mu_45, mh709, k⟩ := k
              rcases mb_takesN (n := 61) hT hR hf hp (by decide) mh709 with ⟨mk710, mq712, mq713, mq714, mk711⟩ | ⟨mk710, _, _, _⟩
              · replace mq712 := mq712.symm
                subst mq712
                replace mq713 := mq713.symm
                subst mq713
                replace mq714 := mq714.symm
                subst mq714
                have mk711a := mk711.1
                replace k := zk_f (by decide) k
                replace k := zk_o5 k
                obtain ⟨mu_48, mu_49, mu_50, mu_51, mu_52, mh715, k⟩ := k
                unfold f_X12_readEnding at mh715
                unfold B_X12_readEnding_0 at mh715
                obtain ⟨mr_1, mu_2, mh716, mh715⟩ := zk_o2 mh715
                obtain mk717 := mb_look hT hR mk711 mh716
                have mh715 := zk_f (fun z => absurd ((BR_E (n := 109) mk717 (by decide)).mp z) (by omega)) mh715
                have mh715 := zk_f (fun z => absurd ((BR_E (n := 102) mk717 (by decide)).mp z) (by omega)) mh715
                have mh715 := zk_f (fun z => absurd ((BR_E (n := 97) mk717 (by decide)).mp z) (by omega)) mh715
                have mh715 := zk_f (fun z => absurd ((BR_E (n := 100) mk717 (by decide)).mp z) (by omega)) mh715
                have mh715 := zk_f (fun z => absurd ((BR_E (n := 112) mk717 (by decide)).mp z) (by omega)) mh715
                obtain ⟨mu_9, mh718, mh715⟩ := zk_o1 mh715
                obtain mq719 := mb_wrongN hf mh718
                replace mq719 := mq719.symm
                subst mq719
                simp only [Option.some.injEq, Prod.mk.injEq] at mh715
                obtain ⟨rfl, rfl, rfl, rfl, rfl⟩ := mh715
                replace k := zk_o3 k
                obtain ⟨mr_54, mu_55, mu_56, mh720, k⟩ := k
                obtain ⟨mq721, mq722, mq723⟩ := mb_takesP (mk711).1 mh720
                replace mq721 := mq721.symm
                subst mq721
                replace mq722 := mq722.symm
                subst mq722
                replace mq723 := mq723.symm
                subst mq723
                replace k := zk_t (by decide) k
                replace k := Option.some.inj k
                rw [← k]
                first | (exfalso; omega) | exact Or.inl ⟨(mk711).1, rfl, ⟨by intro j hj; first | rfl | exact upd_n hj | exact (upd_n hj).trans (upd_n hj), by intro j hj; first | rfl | exact upd_n hj | exact (upd_n hj).trans (upd_n hj), by intro j hj; first | rfl | exact upd_n hj | exact (upd_n hj).trans (upd_n hj), by intro j hj; first | rfl | exact upd_n hj | exact (upd_n hj).trans (upd_n hj), by intro j hj; first | rfl | exact upd_n hj | exact (upd_n hj).trans (upd_n hj), by intro j hj; first | rfl | exact upd_n hj | exact (upd_n hj).trans (upd_n hj), by intro j hj; first | rfl | exact upd_n hj | exact (upd_n hj).trans (upd_n hj), by intro j hj; first | rfl | exact upd_n hj | exact (upd_n hj).trans (upd_n hj), fun _ _ => rfl, fun _ _ => rfl⟩⟩
              · exact (mk710 ck2).elim
  · replace cq6 := cq6.symm
    subst cq6
    replace cq7 := cq7.symm
    subst cq7
    replace h := zk_o2 h
    obtain ⟨cr_4, cu_5, ch158, h⟩ := h
    obtain ⟨cq159, cq160⟩ := cb_acceptP (hp).1 ch158
    replace cq159 := cq159.symm
    subst cq159
    replace cq160 := cq160.symm
    subst cq160
    replace h := zk_t (by decide) h
    replace h := zk_o2 h
    obtain ⟨cr_8, cu_9, ch161, h⟩ := h
    obtain ⟨cq162, cq163⟩ := cb_acceptP (hp).1 ch161
    replace cq162 := cq162.symm
    subst cq162
    replace cq163 := cq163.symm
    subst cq163
    replace h := zk_t (by decide) h
    replace h := zk_o2 h
    obtain ⟨cr_12, cu_13, ch164, h⟩ := h
    obtain ⟨cq165, cq166⟩ := cb_acceptP (hp).1 ch164
    replace cq165 := cq165.symm
    subst cq165
    replace cq166 := cq166.symm
    subst cq166
    replace h := zk_t (by decide) h
    replace h := zk_o2 h
    obtain ⟨cr_16, cu_17, ch167, h⟩ := h
    obtain ⟨cq168, cq169⟩ := cb_acceptP (hp).1 ch167
    replace cq168 := cq168.symm
    subst cq168
    replace cq169 := cq169.symm
    subst cq169
    replace h := zk_t (by decide) h
    unfold B_X8_readEnding_106 at h
    replace h := zk_t (by decide) h
    replace h := zk_o2 h
    obtain ⟨cu_30, cu_31, ch170, h⟩ := h
    obtain ⟨cq171, cq172⟩ := cb_expectP (hp).1 ch170
    replace cq171 := cq171.symm
    subst cq171
    replace cq172 := cq172.symm
    subst cq172
    unfold B_X8_readEnding_123 at h
    replace h := zk_o2 h
    obtain ⟨cr_33, cu_34, ch173, h⟩ := h
    obtain ⟨cq174, cq175⟩ := cb_acceptP (hp).1 ch173
    replace cq174 := cq174.symm
    subst cq174
    replace cq175 := cq175.symm
    subst cq175
    replace h := zk_t (by decide) h
    unfold B_X8_readEnding_138 at h
    replace h := zk_t (by decide) h
    replace h := zk_o2 h
    obtain ⟨cu_38, cu_39, ch176, h⟩ := h
    obtain ⟨cq177, cq178⟩ := cb_expectP (hp).1 ch176
    replace cq177 := cq177.symm
    subst cq177
    replace cq178 := cq178.symm
    subst cq178
    simp only [Option.some.injEq, Prod.mk.injEq] at h
    obtain ⟨rfl, rfl, rfl, rfl, rfl, rfl⟩ := h
    replace k := zk_o3 k
    obtain ⟨mr_43, mu_44, mu_45, mh724, k⟩ := k
    rcases mb_takesN (n := 61) hT hR hf hp (by decide) mh724 with ⟨mk725, _, _, _, mk726⟩ | ⟨mk725, mq727, mq728, mq729⟩
    · exact (ck2 mk725).elim
    · replace mq727 := mq727.symm
      subst mq727
      replace mq728 := mq728.symm
      subst mq728
      replace mq729 := mq729.symm
      subst mq729
      replace k := zk_t (by decide) k
      replace k := Option.some.inj k
      rw [← k]
      first | (exfalso; omega) | exact Or.inl ⟨(hp).1, rfl, ⟨by intro j hj; first | rfl | exact upd_n hj | exact (upd_n hj).trans (upd_n hj), by intro j hj; first | rfl | exact upd_n hj | exact (upd_n hj).trans (upd_n hj), by intro j hj; first | rfl | exact upd_n hj | exact (upd_n hj).trans (upd_n hj), by intro j hj; first | rfl | exact upd_n hj | exact (upd_n hj).trans (upd_n hj), by intro j hj; first | rfl | exact upd_n hj | exact (upd_n hj).trans (upd_n hj), by intro j hj; first | rfl | exact upd_n hj | exact (upd_n hj).trans (upd_n hj), by intro j hj; first | rfl | exact upd_n hj | exact (upd_n hj).trans (upd_n hj), by intro j hj; first | rfl | exact upd_n hj | exact (upd_n hj).trans (upd_n hj), fun _ _ => rfl, fun _ _ => rfl⟩⟩

set_option maxHeartbeats 4000000 in
set_option maxRecDepth 20000 in
theorem cb_judgeP_of {ts : Int32} {at_ : Int32} {f : Int32} {sp : Value} {na : Int32} {a1 f3 : Int32} (hf : 0 ≤ f.toInt) (j : (a1 < ts → f_X8_judge (0 : Int32) a1 sp at_ na f = some f3) ∧ (¬ a1 < ts → f_X8_judge (1 : Int32) a1 sp at_ na f = some f3)) : f3 = f := by
  by_cases c : a1 < ts
  · exact cb_judgeP hf (j.1 c)
  · exact cb_judgeP hf (j.2 c)
set_option maxHeartbeats 4000000 in
set_option maxRecDepth 20000 in
theorem s4_time {mod_code : Int32} {court_shoeCount : Int32} {mod_claims : Int32} {ts : Int32} {at_ : Int32} {f : Int32} {court_suitCount : Int32} {mod_doneMany : Int32} {mod_undoneMany : Int32} {mod_open : Int32} {mod_laid : Int32} {mod_isBoth : Int32} {mod_wished : Int32} {mod_bestMany : Int32} {mod_bestRow : Int32} {mod_ringDigits : Int32} {mod_traces : Int32} {tm : Nat → Int32} {mod_askedMany : Nat → Int32} {mod_asked : Nat → Int32} {mod_pointIs : Nat → Int32} {mod_endKind : Nat → Int32} {mod_isWon : Nat → Int32} {mod_firstMany : Nat → Int32} {mod_suedBy : Nat → Int32} {mod_suedOn : Nat → Int32} {mod_suitDay : Nat → Int32} {mod_suitLand : Nat → Int32} {tb : Nat → Int32} {su_who : Int32} {su_against : Int32} {su_kind : Int32} {su_won : Int32} {su_day : Int32} {su_land : Int32} {su_undoneFrom : Int32} {su_askedCount : Int32} {su_askedBits : Int32} {su_first : Int32} {su_foundSo : Int32} {su_foundNot : Int32} {su_fought : Int32} {su_needed : Int32} {sp : Value} {na : Int32} {g : Int32 → Int32 → Int32 → (Nat → Int32) → (Nat → Int32) → (Nat → Int32) → (Nat → Int32) → (Nat → Int32) → (Nat → Int32) → (Nat → Int32) → (Nat → Int32) → (Nat → Int32) → (Nat → Int32) → (Option (Int32 × Int32 × (Nat → Int32) × (Nat → Int32) × (Nat → Int32) × (Nat → Int32) × (Nat → Int32) × (Nat → Int32) × (Nat → Int32) × (Nat → Int32) × (Nat → Int32) × (Nat → Int32)))} {x1 a1 n1 f1 d1 l1 f3 : Int32} {R : Int32 × Int32 × (Nat → Int32) × (Nat → Int32) × (Nat → Int32) × (Nat → Int32) × (Nat → Int32) × (Nat → Int32) × (Nat → Int32) × (Nat → Int32) × (Nat → Int32) × (Nat → Int32)} (hT : TS ts) (hR : TR ts tb tm) (hf : f.toInt < 0) (hp : PB ts at_) (h : f_X8_readTime ts tb sp at_ na f su_who su_against su_kind su_won su_day su_land su_undoneFrom su_askedCount su_askedBits su_first su_foundSo su_foundNot su_fought su_needed = some (a1, n1, f1, d1, l1)) (j : (a1 < ts → f_X8_judge (0 : Int32) a1 sp a1 n1 f1 = some f3) ∧ (¬ a1 < ts → f_X8_judge (1 : Int32) a1 sp a1 n1 f1 = some f3)) (k : M107t g mod_code court_shoeCount mod_claims ts court_suitCount mod_doneMany mod_undoneMany mod_open mod_laid mod_isBoth mod_wished mod_bestMany mod_bestRow mod_ringDigits mod_traces tm x1 at_ f mod_suedBy mod_suedOn mod_endKind mod_isWon mod_suitDay mod_suitLand mod_askedMany mod_firstMany mod_asked mod_pointIs = some R) : R.2.1 = f3 ∧ RFR x1.toInt.toNat (mod_suedBy, mod_suedOn, mod_endKind, mod_isWon, mod_suitDay, mod_suitLand, mod_askedMany, mod_firstMany, mod_asked, mod_pointIs) R.2.2 ∧ (f3.toInt < 0 → f3 = f ∧ (0 ≤ d1.toInt ∧ d1.toInt ≤ 9999 ∧ 0 ≤ l1.toInt ∧ l1.toInt ≤ 7) ∧ R.2.2 = (mod_suedBy, mod_suedOn, mod_endKind, mod_isWon, upd mod_suitDay x1.toNatClampNeg d1, upd mod_suitLand x1.toNatClampNeg l1, mod_askedMany, mod_firstMany, mod_asked, mod_pointIs)) := by
  have hpa := hp.1
  unfold f_X8_readTime B_X8_readTime_0 at h
  unfold M107t at k
  replace h := zk_o2 h
  obtain ⟨cu_1, cu_2, ch1, h⟩ := h
  rcases cb_expectN (n := 64) hT hf hp (by decide) ch1 with ⟨ck2, cq4, cq5, ck3⟩ | ⟨ck2, cq6, cq7⟩
  · replace cq4 := cq4.symm
    subst cq4
    replace cq5 := cq5.symm
    subst cq5
    have ck3a := ck3.1
    replace h := zk_o4 h
    obtain ⟨cr_4, cu_5, cu_6, cu_7, ch8, h⟩ := h
    rcases cb_numberN4 hT hf ck3 ch8 with ⟨ck9, cq11, cq12, cq13, cq14, ck10⟩ | ⟨ck9, cq15, cq16, cq17, cq18⟩
    · replace cq11 := cq11.symm
      subst cq11
      replace cq12 := cq12.symm
      subst cq12
      replace cq13 := cq13.symm
      subst cq13
      replace cq14 := cq14.symm
      subst cq14
      have ck10a := ck10.1
      have ck10b := nmv_b4 (ts := ts) (tb := tb) (at_ + 1)
      replace h := zk_o2 h
      obtain ⟨cu_9, cu_10, ch19, h⟩ := h
      rcases cb_expectN (n := 47) hT hf ck10 (by decide) ch19 with ⟨ck20, cq22, cq23, ck21⟩ | ⟨ck20, cq24, cq25⟩
      · replace cq22 := cq22.symm
        subst cq22
        replace cq23 := cq23.symm
        subst cq23
        have ck21a := ck21.1
        replace h := zk_o4 h
        obtain ⟨cr_12, cu_13, cu_14, cu_15, ch26, h⟩ := h
        rcases cb_numberD hT hf ck21 ch26 with ⟨ck27, cq29, cq30, cq31, cq32, ck28⟩ | ⟨ck27, cq33, cq34, cq35, cq36⟩
        · replace cq29 := cq29.symm
          subst cq29
          replace cq30 := cq30.symm
          subst cq30
          replace cq31 := cq31.symm
          subst cq31
          replace cq32 := cq32.symm
          subst cq32
          have ck28a := ck28.1
          have ck28b := nmv_b1 (ts := ts) (tb := tb) ((nma ts tb 4 (at_ + 1)) + 1)
          have ck28c := nm_1 ck27
          by_cases cc37 : (8 : Int32) ≤ (nmv ts tb 1 ((nma ts tb 4 (at_ + 1)) + 1))
          · replace h := zk_t cc37 h
            have cc37n := cc37
            (try simp only [i32_lt, i32_le, i32_e, z32_0, z32_1, z32L_4, z32L_8] at cc37n)
            unfold B_X8_readTime_45 at h
            replace h := zk_o1 h
            obtain ⟨cu_18, ch38, h⟩ := h
            obtain cq39 := cb_judge0N hf ch38
            replace cq39 := cq39.symm
            subst cq39
            simp only [Option.some.injEq, Prod.mk.injEq] at h
            obtain ⟨rfl, rfl, rfl, rfl, rfl⟩ := h
            have j := (cb_judgeP_of (ck21).1 j).symm
            subst j
            replace k := zk_o3 k
            obtain ⟨mr_54, mu_55, mu_56, mh1, k⟩ := k
            rcases mb_takesN (n := 64) hT hR hf hp (by decide) mh1 with ⟨mk2, mq4, mq5, mq6, mk3⟩ | ⟨mk2, _, _, _⟩
            · replace mq4 := mq4.symm
              subst mq4
              replace mq5 := mq5.symm
              subst mq5
              replace mq6 := mq6.symm
              subst mq6
              have mk3a := mk3.1
              replace k := zk_f (by decide) k
              replace k := zk_o3 k
              obtain ⟨mr_59, mu_60, mu_61, mh7, k⟩ := k
              rcases mb_number4 (m := 10000) hT hR hf mk3 (by decide) mh7 with ⟨mk8, mk9, mq11, mq12, mq13, mk10⟩ | ⟨mk8, mk9, _, _, _, mk10⟩ | ⟨mk8, _, _, _⟩
              · replace mq11 := mq11.symm
                subst mq11
                replace mq12 := mq12.symm
                subst mq12
                replace mq13 := mq13.symm
                subst mq13
                have mk10a := mk10.1
                have mk10b := nmv_b4 (ts := ts) (tb := tb) (at_ + 1)
                replace k := zk_gd k
                obtain ⟨_, k⟩ := k
                replace k := zk_lt k
                obtain ⟨mf_64, me14, k⟩ := k
                replace k := zk_o3 k
                obtain ⟨mr_65, mu_66, mu_67, mh15, k⟩ := k
                rcases mb_takesN (n := 47) hT hR hf mk10 (by decide) mh15 with ⟨mk16, mq18, mq19, mq20, mk17⟩ | ⟨mk16, _, _, _⟩
                · replace mq18 := mq18.symm
                  subst mq18
                  replace mq19 := mq19.symm
                  subst mq19
                  replace mq20 := mq20.symm
                  subst mq20
                  have mk17a := mk17.1
                  replace k := zk_f (by decide) k
                  replace k := zk_o3 k
                  obtain ⟨mr_70, mu_71, mu_72, mh21, k⟩ := k
                  rcases mb_numberD (m := 8) hT hR hf mk17 (by decide) mh21 with ⟨mk22, mk23, _, _, _, mk24⟩ | ⟨mk22, mk23, mq25, mq26, mq27, mk24⟩ | ⟨mk22, _, _, _⟩
                  · exfalso; omega
                  · replace mq25 := mq25.symm
                    subst mq25
                    replace mq26 := mq26.symm
                    subst mq26
                    replace mq27 := mq27.symm
                    subst mq27
                    have mk24a := mk24.1
                    have mk24b := nmv_b1 (ts := ts) (tb := tb) ((nma ts tb 4 (at_ + 1)) + 1)
                    replace k := zk_gd k
                    obtain ⟨_, k⟩ := k
                    replace k := zk_lt k
                    obtain ⟨mf_75, me28, k⟩ := k
                    replace k := zk_t (by rw [i32_le, z32_0]; omega) k
                    subst me14
                    subst me28
                    replace k := Option.some.inj k
                    rw [← k]
                    first | (exfalso; omega) | exact ⟨rfl, ⟨by intro j hj; first | rfl | exact upd_n hj | exact (upd_n hj).trans (upd_n hj), by intro j hj; first | rfl | exact upd_n hj | exact (upd_n hj).trans (upd_n hj), by intro j hj; first | rfl | exact upd_n hj | exact (upd_n hj).trans (upd_n hj), by intro j hj; first | rfl | exact upd_n hj | exact (upd_n hj).trans (upd_n hj), by intro j hj; first | rfl | exact upd_n hj | exact (upd_n hj).trans (upd_n hj), by intro j hj; first | rfl | exact upd_n hj | exact (upd_n hj).trans (upd_n hj), by intro j hj; first | rfl | exact upd_n hj | exact (upd_n hj).trans (upd_n hj), by intro j hj; first | rfl | exact upd_n hj | exact (upd_n hj).trans (upd_n hj), fun _ _ => rfl, fun _ _ => rfl⟩, fun z => absurd z (by omega)⟩ | exact ⟨rfl, ⟨by intro j hj; first | rfl | exact upd_n hj | exact (upd_n hj).trans (upd_n hj), by intro j hj; first | rfl | exact upd_n hj | exact (upd_n hj).trans (upd_n hj), by intro j hj; first | rfl | exact upd_n hj | exact (upd_n hj).trans (upd_n hj), by intro j hj; first | rfl | exact upd_n hj | exact (upd_n hj).trans (upd_n hj), by intro j hj; first | rfl | exact upd_n hj | exact (upd_n hj).trans (upd_n hj), by intro j hj; first | rfl | exact upd_n hj | exact (upd_n hj).trans (upd_n hj), by intro j hj; first | rfl | exact upd_n hj | exact (upd_n hj).trans (upd_n hj), by intro j hj; first | rfl | exact upd_n hj | exact (upd_n hj).trans (upd_n hj), fun _ _ => rfl, fun _ _ => rfl⟩, fun _ => ⟨rfl, by omega, rfl⟩⟩
                  · exact (zx_2 ck27 mk22).elim
                · exact (mk16 ck20).elim
              · exfalso; omega
              · exact (zx_2 ck9 mk8).elim
            · exact (mk2 ck2).elim
          · replace h := zk_f cc37 h
            have cc37n := cc37
            (try simp only [i32_lt, i32_le, i32_e, z32_0, z32_1, z32L_4, z32L_8] at cc37n)
            unfold B_X8_readTime_45 at h
            replace h := zk_o1 h
            obtain ⟨cu_18, ch40, h⟩ := h
            obtain cq41 := cb_judge1 ch40
            replace cq41 := cq41.symm
            subst cq41
            simp only [Option.some.injEq, Prod.mk.injEq] at h
            obtain ⟨rfl, rfl, rfl, rfl, rfl⟩ := h
            by_cases ce : (((nma ts tb 4 (at_ + 1)) + 1) + 1) < ts
            · have j := (j.1 ce)
              have j := (cb_judge0N hf j).symm
              subst j
              rw [i32_lt] at ce
              replace k := zk_o3 k
              obtain ⟨mr_54, mu_55, mu_56, mh29, k⟩ := k
              rcases mb_takesN (n := 64) hT hR hf hp (by decide) mh29 with ⟨mk30, mq32, mq33, mq34, mk31⟩ | ⟨mk30, _, _, _⟩
              · replace mq32 := mq32.symm
                subst mq32
                replace mq33 := mq33.symm
                subst mq33
                replace mq34 := mq34.symm
                subst mq34
                have mk31a := mk31.1
                replace k := zk_f (by decide) k
                replace k := zk_o3 k
                obtain ⟨mr_59, mu_60, mu_61, mh35, k⟩ := k
                rcases mb_number4 (m := 10000) hT hR hf mk31 (by decide) mh35 with ⟨mk36, mk37, mq39, mq40, mq41, mk38⟩ | ⟨mk36, mk37, _, _, _, mk38⟩ | ⟨mk36, _, _, _⟩
                · replace mq39 := mq39.symm
                  subst mq39
                  replace mq40 := mq40.symm
                  subst mq40
                  replace mq41 := mq41.symm
                  subst mq41
                  have mk38a := mk38.1
                  have mk38b := nmv_b4 (ts := ts) (tb := tb) (at_ + 1)
                  replace k := zk_gd k
                  obtain ⟨_, k⟩ := k
                  replace k := zk_lt k
                  obtain ⟨mf_64, me42, k⟩ := k
                  replace k := zk_o3 k
                  obtain ⟨mr_65, mu_66, mu_67, mh43, k⟩ := k
                  rcases mb_takesN (n := 47) hT hR hf mk38 (by decide) mh43 with ⟨mk44, mq46, mq47, mq48, mk45⟩ | ⟨mk44, _, _, _⟩
                  · replace mq46 := mq46.symm
                    subst mq46
                    replace mq47 := mq47.symm
                    subst mq47
                    replace mq48 := mq48.symm
                    subst mq48
                    have mk45a := mk45.1
                    replace k := zk_f (by decide) k
                    replace k := zk_o3 k
                    obtain ⟨mr_70, mu_71, mu_72, mh49, k⟩ := k
                    rcases mb_numberD (m := 8) hT hR hf mk45 (by decide) mh49 with ⟨mk50, mk51, mq53, mq54, mq55, mk52⟩ | ⟨mk50, mk51, _, _, _, mk52⟩ | ⟨mk50, _, _, _⟩
                    · replace mq53 := mq53.symm
                      subst mq53
                      replace mq54 := mq54.symm
                      subst mq54
                      replace mq55 := mq55.symm
                      subst mq55
                      have mk52a := mk52.1
                      have mk52b := nmv_b1 (ts := ts) (tb := tb) ((nma ts tb 4 (at_ + 1)) + 1)
                      replace k := zk_gd k
                      obtain ⟨_, k⟩ := k
                      replace k := zk_lt k
                      obtain ⟨mf_75, me56, k⟩ := k
                      replace k := zk_f (by rw [i32_le, z32_0]; omega) k
                      by_cases mc57 : ts ≤ (((nma ts tb 4 (at_ + 1)) + 1) + 1)
                      · replace k := zk_t mc57 k
                        have mc57n := mc57
                        (try simp only [i32_lt, i32_le, i32_e, z32_0, z32_1, z32L_4] at mc57n)
                        subst me42
                        subst me56
                        replace k := Option.some.inj k
                        rw [← k]
                        first | (exfalso; omega) | exact ⟨rfl, ⟨by intro j hj; first | rfl | exact upd_n hj | exact (upd_n hj).trans (upd_n hj), by intro j hj; first | rfl | exact upd_n hj | exact (upd_n hj).trans (upd_n hj), by intro j hj; first | rfl | exact upd_n hj | exact (upd_n hj).trans (upd_n hj), by intro j hj; first | rfl | exact upd_n hj | exact (upd_n hj).trans (upd_n hj), by intro j hj; first | rfl | exact upd_n hj | exact (upd_n hj).trans (upd_n hj), by intro j hj; first | rfl | exact upd_n hj | exact (upd_n hj).trans (upd_n hj), by intro j hj; first | rfl | exact upd_n hj | exact (upd_n hj).trans (upd_n hj), by intro j hj; first | rfl | exact upd_n hj | exact (upd_n hj).trans (upd_n hj), fun _ _ => rfl, fun _ _ => rfl⟩, fun z => absurd z (by omega)⟩ | exact ⟨rfl, ⟨by intro j hj; first | rfl | exact upd_n hj | exact (upd_n hj).trans (upd_n hj), by intro j hj; first | rfl | exact upd_n hj | exact (upd_n hj).trans (upd_n hj), by intro j hj; first | rfl | exact upd_n hj | exact (upd_n hj).trans (upd_n hj), by intro j hj; first | rfl | exact upd_n hj | exact (upd_n hj).trans (upd_n hj), by intro j hj; first | rfl | exact upd_n hj | exact (upd_n hj).trans (upd_n hj), by intro j hj; first | rfl | exact upd_n hj | exact (upd_n hj).trans (upd_n hj), by intro j hj; first | rfl | exact upd_n hj | exact (upd_n hj).trans (upd_n hj), by intro j hj; first | rfl | exact upd_n hj | exact (upd_n hj).trans (upd_n hj), fun _ _ => rfl, fun _ _ => rfl⟩, fun _ => ⟨rfl, by omega, rfl⟩⟩
                      · replace k := zk_f mc57 k
                        have mc57n := mc57
                        (try simp only [i32_lt, i32_le, i32_e, z32_0, z32_1, z32L_4] at mc57n)
                        replace k := zk_o1 k
                        obtain ⟨mu_78, mh58, k⟩ := k
                        obtain mq59 := mb_wrongN hf mh58
                        replace mq59 := mq59.symm
                        subst mq59
                        subst me42
                        subst me56
                        replace k := Option.some.inj k
                        rw [← k]
                        first | (exfalso; omega) | exact ⟨rfl, ⟨by intro j hj; first | rfl | exact upd_n hj | exact (upd_n hj).trans (upd_n hj), by intro j hj; first | rfl | exact upd_n hj | exact (upd_n hj).trans (upd_n hj), by intro j hj; first | rfl | exact upd_n hj | exact (upd_n hj).trans (upd_n hj), by intro j hj; first | rfl | exact upd_n hj | exact (upd_n hj).trans (upd_n hj), by intro j hj; first | rfl | exact upd_n hj | exact (upd_n hj).trans (upd_n hj), by intro j hj; first | rfl | exact upd_n hj | exact (upd_n hj).trans (upd_n hj), by intro j hj; first | rfl | exact upd_n hj | exact (upd_n hj).trans (upd_n hj), by intro j hj; first | rfl | exact upd_n hj | exact (upd_n hj).trans (upd_n hj), fun _ _ => rfl, fun _ _ => rfl⟩, fun z => absurd z (by omega)⟩ | exact ⟨rfl, ⟨by intro j hj; first | rfl | exact upd_n hj | exact (upd_n hj).trans (upd_n hj), by intro j hj; first | rfl | exact upd_n hj | exact (upd_n hj).trans (upd_n hj), by intro j hj; first | rfl | exact upd_n hj | exact (upd_n hj).trans (upd_n hj), by intro j hj; first | rfl | exact upd_n hj | exact (upd_n hj).trans (upd_n hj), by intro j hj; first | rfl | exact upd_n hj | exact (upd_n hj).trans (upd_n hj), by intro j hj; first | rfl | exact upd_n hj | exact (upd_n hj).trans (upd_n hj), by intro j hj; first | rfl | exact upd_n hj | exact (upd_n hj).trans (upd_n hj), by intro j hj; first | rfl | exact upd_n hj | exact (upd_n hj).trans (upd_n hj), fun _ _ => rfl, fun _ _ => rfl⟩, fun _ => ⟨rfl, by omega, rfl⟩⟩
                    · exfalso; omega
                    · exact (zx_2 ck27 mk50).elim
                  · exact (mk44 ck20).elim
                · exfalso; omega
                · exact (zx_2 ck9 mk36).elim
              · exact (mk30 ck2).elim
            · have j := (j.2 ce)
              have j := (cb_judge1 j).symm
              subst j
              rw [i32_lt] at ce
              replace k := zk_o3 k
              obtain ⟨mr_54, mu_55, mu_56, mh60, k⟩ := k
              rcases mb_takesN (n := 64) hT hR hf hp (by decide) mh60 with ⟨mk61, mq63, mq64, mq65, mk62⟩ | ⟨mk61, _, _, _⟩
              · replace mq63 := mq63.symm
                subst mq63
                replace mq64 := mq64.symm
                subst mq64
                replace mq65 := mq65.symm
                subst mq65
                have mk62a := mk62.1
                replace k := zk_f (by decide) k
                replace k := zk_o3 k
                obtain ⟨mr_59, mu_60, mu_61, mh66, k⟩ := k
                rcases mb_number4 (m := 10000) hT hR hf mk62 (by decide) mh66 with ⟨mk67, mk68, mq70, mq71, mq72, mk69⟩ | ⟨mk67, mk68, _, _, _, mk69⟩ | ⟨mk67, _, _, _⟩
                · replace mq70 := mq70.symm
                  subst mq70
                  replace mq71 := mq71.symm
                  subst mq71
                  replace mq72 := mq72.symm
                  subst mq72
                  have mk69a := mk69.1
                  have mk69b := nmv_b4 (ts := ts) (tb := tb) (at_ + 1)
                  replace k := zk_gd k
                  obtain ⟨_, k⟩ := k
                  replace k := zk_lt k
                  obtain ⟨mf_64, me73, k⟩ := k
                  replace k := zk_o3 k
                  obtain ⟨mr_65, mu_66, mu_67, mh74, k⟩ := k
                  rcases mb_takesN (n := 47) hT hR hf mk69 (by decide) mh74 with ⟨mk75, mq77, mq78, mq79, mk76⟩ | ⟨mk75, _, _, _⟩
                  · replace mq77 := mq77.symm
                    subst mq77
                    replace mq78 := mq78.symm
                    subst mq78
                    replace mq79 := mq79.symm
                    subst mq79
                    have mk76a := mk76.1
                    replace k := zk_f (by decide) k
                    replace k := zk_o3 k
                    obtain ⟨mr_70, mu_71, mu_72, mh80, k⟩ := k
                    rcases mb_numberD (m := 8) hT hR hf mk76 (by decide) mh80 with ⟨mk81, mk82, mq84, mq85, mq86, mk83⟩ | ⟨mk81, mk82, _, _, _, mk83⟩ | ⟨mk81, _, _, _⟩
                    · replace mq84 := mq84.symm
                      subst mq84
                      replace mq85 := mq85.symm
                      subst mq85
                      replace mq86 := mq86.symm
                      subst mq86
                      have mk83a := mk83.1
                      have mk83b := nmv_b1 (ts := ts) (tb := tb) ((nma ts tb 4 (at_ + 1)) + 1)
                      replace k := zk_gd k
                      obtain ⟨_, k⟩ := k
                      replace k := zk_lt k
                      obtain ⟨mf_75, me87, k⟩ := k
                      replace k := zk_f (by rw [i32_le, z32_0]; omega) k
                      by_cases mc88 : ts ≤ (((nma ts tb 4 (at_ + 1)) + 1) + 1)
                      · replace k := zk_t mc88 k
                        have mc88n := mc88
                        (try simp only [i32_lt, i32_le, i32_e, z32_0, z32_1, z32L_4] at mc88n)
                        subst me73
                        subst me87
                        replace k := Option.some.inj k
                        rw [← k]
                        first | (exfalso; omega) | exact ⟨rfl, ⟨by intro j hj; first | rfl | exact upd_n hj | exact (upd_n hj).trans (upd_n hj), by intro j hj; first | rfl | exact upd_n hj | exact (upd_n hj).trans (upd_n hj), by intro j hj; first | rfl | exact upd_n hj | exact (upd_n hj).trans (upd_n hj), by intro j hj; first | rfl | exact upd_n hj | exact (upd_n hj).trans (upd_n hj), by intro j hj; first | rfl | exact upd_n hj | exact (upd_n hj).trans (upd_n hj), by intro j hj; first | rfl | exact upd_n hj | exact (upd_n hj).trans (upd_n hj), by intro j hj; first | rfl | exact upd_n hj | exact (upd_n hj).trans (upd_n hj), by intro j hj; first | rfl | exact upd_n hj | exact (upd_n hj).trans (upd_n hj), fun _ _ => rfl, fun _ _ => rfl⟩, fun z => absurd z (by omega)⟩ | exact ⟨rfl, ⟨by intro j hj; first | rfl | exact upd_n hj | exact (upd_n hj).trans (upd_n hj), by intro j hj; first | rfl | exact upd_n hj | exact (upd_n hj).trans (upd_n hj), by intro j hj; first | rfl | exact upd_n hj | exact (upd_n hj).trans (upd_n hj), by intro j hj; first | rfl | exact upd_n hj | exact (upd_n hj).trans (upd_n hj), by intro j hj; first | rfl | exact upd_n hj | exact (upd_n hj).trans (upd_n hj), by intro j hj; first | rfl | exact upd_n hj | exact (upd_n hj).trans (upd_n hj), by intro j hj; first | rfl | exact upd_n hj | exact (upd_n hj).trans (upd_n hj), by intro j hj; first | rfl | exact upd_n hj | exact (upd_n hj).trans (upd_n hj), fun _ _ => rfl, fun _ _ => rfl⟩, fun _ => ⟨rfl, by omega, rfl⟩⟩
                      · replace k := zk_f mc88 k
                        have mc88n := mc88
                        (try simp only [i32_lt, i32_le, i32_e, z32_0, z32_1, z32L_4] at mc88n)
                        replace k := zk_o1 k
                        obtain ⟨mu_78, mh89, k⟩ := k
                        obtain mq90 := mb_wrongN hf mh89
                        replace mq90 := mq90.symm
                        subst mq90
                        subst me73
                        subst me87
                        replace k := Option.some.inj k
                        rw [← k]
                        first | (exfalso; omega) | exact ⟨rfl, ⟨by intro j hj; first | rfl | exact upd_n hj | exact (upd_n hj).trans (upd_n hj), by intro j hj; first | rfl | exact upd_n hj | exact (upd_n hj).trans (upd_n hj), by intro j hj; first | rfl | exact upd_n hj | exact (upd_n hj).trans (upd_n hj), by intro j hj; first | rfl | exact upd_n hj | exact (upd_n hj).trans (upd_n hj), by intro j hj; first | rfl | exact upd_n hj | exact (upd_n hj).trans (upd_n hj), by intro j hj; first | rfl | exact upd_n hj | exact (upd_n hj).trans (upd_n hj), by intro j hj; first | rfl | exact upd_n hj | exact (upd_n hj).trans (upd_n hj), by intro j hj; first | rfl | exact upd_n hj | exact (upd_n hj).trans (upd_n hj), fun _ _ => rfl, fun _ _ => rfl⟩, fun z => absurd z (by omega)⟩ | exact ⟨rfl, ⟨by intro j hj; first | rfl | exact upd_n hj | exact (upd_n hj).trans (upd_n hj), by intro j hj; first | rfl | exact upd_n hj | exact (upd_n hj).trans (upd_n hj), by intro j hj; first | rfl | exact upd_n hj | exact (upd_n hj).trans (upd_n hj), by intro j hj; first | rfl | exact upd_n hj | exact (upd_n hj).trans (upd_n hj), by intro j hj; first | rfl | exact upd_n hj | exact (upd_n hj).trans (upd_n hj), by intro j hj; first | rfl | exact upd_n hj | exact (upd_n hj).trans (upd_n hj), by intro j hj; first | rfl | exact upd_n hj | exact (upd_n hj).trans (upd_n hj), by intro j hj; first | rfl | exact upd_n hj | exact (upd_n hj).trans (upd_n hj), fun _ _ => rfl, fun _ _ => rfl⟩, fun _ => ⟨rfl, by omega, rfl⟩⟩
                    · exfalso; omega
                    · exact (zx_2 ck27 mk81).elim
                  · exact (mk75 ck20).elim
                · exfalso; omega
                · exact (zx_2 ck9 mk67).elim
              · exact (mk61 ck2).elim
        · replace cq33 := cq33.symm
          subst cq33
          replace cq34 := cq34.symm
          subst cq34
          replace cq35 := cq35.symm
          subst cq35
          replace cq36 := cq36.symm
          subst cq36
          replace h := zk_f (by decide) h
          unfold B_X8_readTime_45 at h
          replace h := zk_o1 h
          obtain ⟨cu_18, ch42, h⟩ := h
          obtain cq43 := cb_judgeP (ck21).1 ch42
          replace cq43 := cq43.symm
          subst cq43
          simp only [Option.some.injEq, Prod.mk.injEq] at h
          obtain ⟨rfl, rfl, rfl, rfl, rfl⟩ := h
          have j := (cb_judgeP_of (ck21).1 j).symm
          subst j
          replace k := zk_o3 k
          obtain ⟨mr_54, mu_55, mu_56, mh91, k⟩ := k
          rcases mb_takesN (n := 64) hT hR hf hp (by decide) mh91 with ⟨mk92, mq94, mq95, mq96, mk93⟩ | ⟨mk92, _, _, _⟩
          · replace mq94 := mq94.symm
            subst mq94
            replace mq95 := mq95.symm
            subst mq95
            replace mq96 := mq96.symm
            subst mq96
            have mk93a := mk93.1
            replace k := zk_f (by decide) k
            replace k := zk_o3 k
            obtain ⟨mr_59, mu_60, mu_61, mh97, k⟩ := k
            rcases mb_number4 (m := 10000) hT hR hf mk93 (by decide) mh97 with ⟨mk98, mk99, mq101, mq102, mq103, mk100⟩ | ⟨mk98, mk99, _, _, _, mk100⟩ | ⟨mk98, _, _, _⟩
            · replace mq101 := mq101.symm
              subst mq101
              replace mq102 := mq102.symm
              subst mq102
              replace mq103 := mq103.symm
              subst mq103
              have mk100a := mk100.1
              have mk100b := nmv_b4 (ts := ts) (tb := tb) (at_ + 1)
              replace k := zk_gd k
              obtain ⟨_, k⟩ := k
              replace k := zk_lt k
              obtain ⟨mf_64, me104, k⟩ := k
              replace k := zk_o3 k
              obtain ⟨mr_65, mu_66, mu_67, mh105, k⟩ := k
              rcases mb_takesN (n := 47) hT hR hf mk100 (by decide) mh105 with ⟨mk106, mq108, mq109, mq110, mk107⟩ | ⟨mk106, _, _, _⟩
              · replace mq108 := mq108.symm
                subst mq108
                replace mq109 := mq109.symm
                subst mq109
                replace mq110 := mq110.symm
                subst mq110
                have mk107a := mk107.1
                replace k := zk_f (by decide) k
                replace k := zk_o3 k
                obtain ⟨mr_70, mu_71, mu_72, mh111, k⟩ := k
                rcases mb_numberD (m := 8) hT hR hf mk107 (by decide) mh111 with ⟨mk112, mk113, _, _, _, mk114⟩ | ⟨mk112, mk113, _, _, _, mk114⟩ | ⟨mk112, mq115, mq116, mq117⟩
                · exact (zx_2 mk112 ck27).elim
                · exact (zx_2 mk112 ck27).elim
                · replace mq115 := mq115.symm
                  subst mq115
                  replace mq116 := mq116.symm
                  subst mq116
                  replace mq117 := mq117.symm
                  subst mq117
                  replace k := zk_gd k
                  obtain ⟨_, k⟩ := k
                  replace k := zk_lt k
                  obtain ⟨mf_75, me118, k⟩ := k
                  replace k := zk_t (by rw [i32_le, z32_0]; omega) k
                  subst me104
                  subst me118
                  replace k := Option.some.inj k
                  rw [← k]
                  first | (exfalso; omega) | exact ⟨rfl, ⟨by intro j hj; first | rfl | exact upd_n hj | exact (upd_n hj).trans (upd_n hj), by intro j hj; first | rfl | exact upd_n hj | exact (upd_n hj).trans (upd_n hj), by intro j hj; first | rfl | exact upd_n hj | exact (upd_n hj).trans (upd_n hj), by intro j hj; first | rfl | exact upd_n hj | exact (upd_n hj).trans (upd_n hj), by intro j hj; first | rfl | exact upd_n hj | exact (upd_n hj).trans (upd_n hj), by intro j hj; first | rfl | exact upd_n hj | exact (upd_n hj).trans (upd_n hj), by intro j hj; first | rfl | exact upd_n hj | exact (upd_n hj).trans (upd_n hj), by intro j hj; first | rfl | exact upd_n hj | exact (upd_n hj).trans (upd_n hj), fun _ _ => rfl, fun _ _ => rfl⟩, fun z => absurd z (by omega)⟩ | exact ⟨rfl, ⟨by intro j hj; first | rfl | exact upd_n hj | exact (upd_n hj).trans (upd_n hj), by intro j hj; first | rfl | exact upd_n hj | exact (upd_n hj).trans (upd_n hj), by intro j hj; first | rfl | exact upd_n hj | exact (upd_n hj).trans (upd_n hj), by intro j hj; first | rfl | exact upd_n hj | exact (upd_n hj).trans (upd_n hj), by intro j hj; first | rfl | exact upd_n hj | exact (upd_n hj).trans (upd_n hj), by intro j hj; first | rfl | exact upd_n hj | exact (upd_n hj).trans (upd_n hj), by intro j hj; first | rfl | exact upd_n hj | exact (upd_n hj).trans (upd_n hj), by intro j hj; first | rfl | exact upd_n hj | exact (upd_n hj).trans (upd_n hj), fun _ _ => rfl, fun _ _ => rfl⟩, fun _ => ⟨rfl, by omega, rfl⟩⟩
              · exact (mk106 ck20).elim
            · exfalso; omega
            · exact (zx_2 ck9 mk98).elim
          · exact (mk92 ck2).elim
      · replace cq24 := cq24.symm
        subst cq24
        replace cq25 := cq25.symm
        subst cq25
        replace h := zk_o4 h
        obtain ⟨cr_12, cu_13, cu_14, cu_15, ch44, h⟩ := h
        obtain ⟨cq45, cq46, cq47, cq48⟩ := cb_numberP1 (ck10).1 ch44
        replace cq45 := cq45.symm
        subst cq45
        replace cq46 := cq46.symm
        subst cq46
        replace cq47 := cq47.symm
        subst cq47
        replace cq48 := cq48.symm
        subst cq48
        replace h := zk_f (by decide) h
        unfold B_X8_readTime_45 at h
        replace h := zk_o1 h
        obtain ⟨cu_18, ch49, h⟩ := h
        obtain cq50 := cb_judgeP (ck10).1 ch49
        replace cq50 := cq50.symm
        subst cq50
        simp only [Option.some.injEq, Prod.mk.injEq] at h
        obtain ⟨rfl, rfl, rfl, rfl, rfl⟩ := h
        have j := (cb_judgeP_of (ck10).1 j).symm
        subst j
        replace k := zk_o3 k
        obtain ⟨mr_54, mu_55, mu_56, mh119, k⟩ := k
        rcases mb_takesN (n := 64) hT hR hf hp (by decide) mh119 with ⟨mk120, mq122, mq123, mq124, mk121⟩ | ⟨mk120, _, _, _⟩
        · replace mq122 := mq122.symm
          subst mq122
          replace mq123 := mq123.symm
          subst mq123
          replace mq124 := mq124.symm
          subst mq124
          have mk121a := mk121.1
          replace k := zk_f (by decide) k
          replace k := zk_o3 k
          obtain ⟨mr_59, mu_60, mu_61, mh125, k⟩ := k
          rcases mb_number4 (m := 10000) hT hR hf mk121 (by decide) mh125 with ⟨mk126, mk127, mq129, mq130, mq131, mk128⟩ | ⟨mk126, mk127, _, _, _, mk128⟩ | ⟨mk126, _, _, _⟩
          · replace mq129 := mq129.symm
            subst mq129
            replace mq130 := mq130.symm
            subst mq130
            replace mq131 := mq131.symm
            subst mq131
            have mk128a := mk128.1
            have mk128b := nmv_b4 (ts := ts) (tb := tb) (at_ + 1)
            replace k := zk_gd k
            obtain ⟨_, k⟩ := k
            replace k := zk_lt k
            obtain ⟨mf_64, me132, k⟩ := k
            replace k := zk_o3 k
            obtain ⟨mr_65, mu_66, mu_67, mh133, k⟩ := k
            rcases mb_takesN (n := 47) hT hR hf mk128 (by decide) mh133 with ⟨mk134, _, _, _, mk135⟩ | ⟨mk134, mq136, mq137, mq138⟩
            · exact (ck20 mk134).elim
            · replace mq136 := mq136.symm
              subst mq136
              replace mq137 := mq137.symm
              subst mq137
              replace mq138 := mq138.symm
              subst mq138
              replace k := zk_t (by decide) k
              subst me132
              replace k := Option.some.inj k
              rw [← k]
              first | (exfalso; omega) | exact ⟨rfl, ⟨by intro j hj; first | rfl | exact upd_n hj | exact (upd_n hj).trans (upd_n hj), by intro j hj; first | rfl | exact upd_n hj | exact (upd_n hj).trans (upd_n hj), by intro j hj; first | rfl | exact upd_n hj | exact (upd_n hj).trans (upd_n hj), by intro j hj; first | rfl | exact upd_n hj | exact (upd_n hj).trans (upd_n hj), by intro j hj; first | rfl | exact upd_n hj | exact (upd_n hj).trans (upd_n hj), by intro j hj; first | rfl | exact upd_n hj | exact (upd_n hj).trans (upd_n hj), by intro j hj; first | rfl | exact upd_n hj | exact (upd_n hj).trans (upd_n hj), by intro j hj; first | rfl | exact upd_n hj | exact (upd_n hj).trans (upd_n hj), fun _ _ => rfl, fun _ _ => rfl⟩, fun z => absurd z (by omega)⟩ | exact ⟨rfl, ⟨by intro j hj; first | rfl | exact upd_n hj | exact (upd_n hj).trans (upd_n hj), by intro j hj; first | rfl | exact upd_n hj | exact (upd_n hj).trans (upd_n hj), by intro j hj; first | rfl | exact upd_n hj | exact (upd_n hj).trans (upd_n hj), by intro j hj; first | rfl | exact upd_n hj | exact (upd_n hj).trans (upd_n hj), by intro j hj; first | rfl | exact upd_n hj | exact (upd_n hj).trans (upd_n hj), by intro j hj; first | rfl | exact upd_n hj | exact (upd_n hj).trans (upd_n hj), by intro j hj; first | rfl | exact upd_n hj | exact (upd_n hj).trans (upd_n hj), by intro j hj; first | rfl | exact upd_n hj | exact (upd_n hj).trans (upd_n hj), fun _ _ => rfl, fun _ _ => rfl⟩, fun _ => ⟨rfl, by omega, rfl⟩⟩
          · exfalso; omega
          · exact (zx_2 ck9 mk126).elim
        · exact (mk120 ck2).elim
    · replace cq15 := cq15.symm
      subst cq15
      replace cq16 := cq16.symm
      subst cq16
      replace cq17 := cq17.symm
      subst cq17
      replace cq18 := cq18.symm
      subst cq18
      replace h := zk_o2 h
      obtain ⟨cu_9, cu_10, ch51, h⟩ := h
      obtain ⟨cq52, cq53⟩ := cb_expectP (ck3).1 ch51
      replace cq52 := cq52.symm
      subst cq52
      replace cq53 := cq53.symm
      subst cq53
      replace h := zk_o4 h
      obtain ⟨cr_12, cu_13, cu_14, cu_15, ch54, h⟩ := h
      obtain ⟨cq55, cq56, cq57, cq58⟩ := cb_numberP1 (ck3).1 ch54
      replace cq55 := cq55.symm
      subst cq55
      replace cq56 := cq56.symm
      subst cq56
      replace cq57 := cq57.symm
      subst cq57
      replace cq58 := cq58.symm
      subst cq58
      replace h := zk_f (by decide) h
      unfold B_X8_readTime_45 at h
      replace h := zk_o1 h
      obtain ⟨cu_18, ch59, h⟩ := h
      obtain cq60 := cb_judgeP (ck3).1 ch59
      replace cq60 := cq60.symm
      subst cq60
      simp only [Option.some.injEq, Prod.mk.injEq] at h
      obtain ⟨rfl, rfl, rfl, rfl, rfl⟩ := h
      have j := (cb_judgeP_of (ck3).1 j).symm
      subst j
      replace k := zk_o3 k
      obtain ⟨mr_54, mu_55, mu_56, mh139, k⟩ := k
      rcases mb_takesN (n := 64) hT hR hf hp (by decide) mh139 with ⟨mk140, mq142, mq143, mq144, mk141⟩ | ⟨mk140, _, _, _⟩
      · replace mq142 := mq142.symm
        subst mq142
        replace mq143 := mq143.symm
        subst mq143
        replace mq144 := mq144.symm
        subst mq144
        have mk141a := mk141.1
        replace k := zk_f (by decide) k
        replace k := zk_o3 k
        obtain ⟨mr_59, mu_60, mu_61, mh145, k⟩ := k
        rcases mb_number4 (m := 10000) hT hR hf mk141 (by decide) mh145 with ⟨mk146, mk147, _, _, _, mk148⟩ | ⟨mk146, mk147, _, _, _, mk148⟩ | ⟨mk146, mq149, mq150, mq151⟩
        · exact (zx_2 mk146 ck9).elim
        · exact (zx_2 mk146 ck9).elim
        · replace mq149 := mq149.symm
          subst mq149
          replace mq150 := mq150.symm
          subst mq150
          replace mq151 := mq151.symm
          subst mq151
          replace k := zk_gd k
          obtain ⟨_, k⟩ := k
          replace k := zk_lt k
          obtain ⟨mf_64, me152, k⟩ := k
          replace k := zk_o3 k
          obtain ⟨mr_65, mu_66, mu_67, mh153, k⟩ := k
          obtain ⟨mq154, mq155, mq156⟩ := mb_takesP (mk141).1 mh153
          replace mq154 := mq154.symm
          subst mq154
          replace mq155 := mq155.symm
          subst mq155
          replace mq156 := mq156.symm
          subst mq156
          replace k := zk_t (by decide) k
          subst me152
          replace k := Option.some.inj k
          rw [← k]
          first | (exfalso; omega) | exact ⟨rfl, ⟨by intro j hj; first | rfl | exact upd_n hj | exact (upd_n hj).trans (upd_n hj), by intro j hj; first | rfl | exact upd_n hj | exact (upd_n hj).trans (upd_n hj), by intro j hj; first | rfl | exact upd_n hj | exact (upd_n hj).trans (upd_n hj), by intro j hj; first | rfl | exact upd_n hj | exact (upd_n hj).trans (upd_n hj), by intro j hj; first | rfl | exact upd_n hj | exact (upd_n hj).trans (upd_n hj), by intro j hj; first | rfl | exact upd_n hj | exact (upd_n hj).trans (upd_n hj), by intro j hj; first | rfl | exact upd_n hj | exact (upd_n hj).trans (upd_n hj), by intro j hj; first | rfl | exact upd_n hj | exact (upd_n hj).trans (upd_n hj), fun _ _ => rfl, fun _ _ => rfl⟩, fun z => absurd z (by omega)⟩ | exact ⟨rfl, ⟨by intro j hj; first | rfl | exact upd_n hj | exact (upd_n hj).trans (upd_n hj), by intro j hj; first | rfl | exact upd_n hj | exact (upd_n hj).trans (upd_n hj), by intro j hj; first | rfl | exact upd_n hj | exact (upd_n hj).trans (upd_n hj), by intro j hj; first | rfl | exact upd_n hj | exact (upd_n hj).trans (upd_n hj), by intro j hj; first | rfl | exact upd_n hj | exact (upd_n hj).trans (upd_n hj), by intro j hj; first | rfl | exact upd_n hj | exact (upd_n hj).trans (upd_n hj), by intro j hj; first | rfl | exact upd_n hj | exact (upd_n hj).trans (upd_n hj), by intro j hj; first | rfl | exact upd_n hj | exact (upd_n hj).trans (upd_n hj), fun _ _ => rfl, fun _ _ => rfl⟩, fun _ => ⟨rfl, by omega, rfl⟩⟩
      · exact (mk140 ck2).elim
  · replace cq6 := cq6.symm
    subst cq6
    replace cq7 := cq7.symm
    subst cq7
    replace h := zk_o4 h
    obtain ⟨cr_4, cu_5, cu_6, cu_7, ch61, h⟩ := h
    obtain ⟨cq62, cq63, cq64, cq65⟩ := cb_numberP4 (hp).1 ch61
    replace cq62 := cq62.symm
    subst cq62
    replace cq63 := cq63.symm
    subst cq63
    replace cq64 := cq64.symm
    subst cq64
    replace cq65 := cq65.symm
    subst cq65
    replace h := zk_o2 h
    obtain ⟨cu_9, cu_10, ch66, h⟩ := h
    obtain ⟨cq67, cq68⟩ := cb_expectP (hp).1 ch66
    replace cq67 := cq67.symm
    subst cq67
    replace cq68 := cq68.symm
    subst cq68
    replace h := zk_o4 h
    obtain ⟨cr_12, cu_13, cu_14, cu_15, ch69, h⟩ := h
    obtain ⟨cq70, cq71, cq72, cq73⟩ := cb_numberP1 (hp).1 ch69
    replace cq70 := cq70.symm
    subst cq70
    replace cq71 := cq71.symm
    subst cq71
    replace cq72 := cq72.symm
    subst cq72
    replace cq73 := cq73.symm
    subst cq73
    replace h := zk_f (by decide) h
    unfold B_X8_readTime_45 at h
    replace h := zk_o1 h
    obtain ⟨cu_18, ch74, h⟩ := h
    obtain cq75 := cb_judgeP (hp).1 ch74
    replace cq75 := cq75.symm
    subst cq75
    simp only [Option.some.injEq, Prod.mk.injEq] at h
    obtain ⟨rfl, rfl, rfl, rfl, rfl⟩ := h
    have j := (cb_judgeP_of (hp).1 j).symm
    subst j
    replace k := zk_o3 k
    obtain ⟨mr_54, mu_55, mu_56, mh157, k⟩ := k
    rcases mb_takesN (n := 64) hT hR hf hp (by decide) mh157 with ⟨mk158, _, _, _, mk159⟩ | ⟨mk158, mq160, mq161, mq162⟩
    · exact (ck2 mk158).elim
    · replace mq160 := mq160.symm
      subst mq160
      replace mq161 := mq161.symm
      subst mq161
      replace mq162 := mq162.symm
      subst mq162
      replace k := zk_t (by decide) k
      replace k := Option.some.inj k
      rw [← k]
      first | (exfalso; omega) | exact ⟨rfl, ⟨by intro j hj; first | rfl | exact upd_n hj | exact (upd_n hj).trans (upd_n hj), by intro j hj; first | rfl | exact upd_n hj | exact (upd_n hj).trans (upd_n hj), by intro j hj; first | rfl | exact upd_n hj | exact (upd_n hj).trans (upd_n hj), by intro j hj; first | rfl | exact upd_n hj | exact (upd_n hj).trans (upd_n hj), by intro j hj; first | rfl | exact upd_n hj | exact (upd_n hj).trans (upd_n hj), by intro j hj; first | rfl | exact upd_n hj | exact (upd_n hj).trans (upd_n hj), by intro j hj; first | rfl | exact upd_n hj | exact (upd_n hj).trans (upd_n hj), by intro j hj; first | rfl | exact upd_n hj | exact (upd_n hj).trans (upd_n hj), fun _ _ => rfl, fun _ _ => rfl⟩, fun z => absurd z (by omega)⟩ | exact ⟨rfl, ⟨by intro j hj; first | rfl | exact upd_n hj | exact (upd_n hj).trans (upd_n hj), by intro j hj; first | rfl | exact upd_n hj | exact (upd_n hj).trans (upd_n hj), by intro j hj; first | rfl | exact upd_n hj | exact (upd_n hj).trans (upd_n hj), by intro j hj; first | rfl | exact upd_n hj | exact (upd_n hj).trans (upd_n hj), by intro j hj; first | rfl | exact upd_n hj | exact (upd_n hj).trans (upd_n hj), by intro j hj; first | rfl | exact upd_n hj | exact (upd_n hj).trans (upd_n hj), by intro j hj; first | rfl | exact upd_n hj | exact (upd_n hj).trans (upd_n hj), by intro j hj; first | rfl | exact upd_n hj | exact (upd_n hj).trans (upd_n hj), fun _ _ => rfl, fun _ _ => rfl⟩, fun _ => ⟨rfl, by omega, rfl⟩⟩

def zbt (b : Int32) (v : Nat) : Bool := b.toBitVec.getLsbD v
theorem bv_one (y : BitVec 32) : (y &&& 1#32) = 0#32 ↔ y.getLsbD 0 = false := by
  constructor
  · intro h
    have h2 := congrArg (fun z => BitVec.getLsbD z 0) h
    simpa using h2
  · intro h
    apply BitVec.eq_of_getLsbD_eq
    intro i hi
    rw [BitVec.getLsbD_and]
    by_cases c : i = 0
    · subst c
      rw [h]
      simp
    · have e : (1#32).getLsbD i = false := by
        rw [BitVec.getLsbD_one]
        simp [c]
      simp [e]
theorem bt_sh : ∀ n : Nat, n < 32 → ((Int32.ofNat n &&& 31).toBitVec.smod 32).toNat = n := by decide +kernel
theorem bt_ofn {v : Int32} (h : 0 ≤ v.toInt ∧ v.toInt ≤ 31) : v = Int32.ofNat v.toInt.toNat := by
  apply Int32.toInt_inj.mp
  rw [Int32.toInt_ofNat_of_lt (by omega)]
  omega
theorem bt_0 {b v : Int32} (h : 0 ≤ v.toInt ∧ v.toInt ≤ 31) : ((b >>> (v &&& 31)) &&& 1) = 0 ↔ zbt b v.toInt.toNat = false := by
  have hn : v.toInt.toNat < 32 := by omega
  have e := bt_ofn h
  have key : ∀ n : Nat, n < 32 → (((b >>> (Int32.ofNat n &&& 31)) &&& 1) = 0 ↔ zbt b n = false) := by
    intro n hn
    rw [← Int32.toBitVec_inj]
    show ((b.toBitVec.sshiftRight' ((Int32.ofNat n &&& 31).toBitVec.smod 32)) &&& 1#32) = 0#32 ↔ _
    rw [BitVec.sshiftRight', bt_sh n hn, bv_one, BitVec.getLsbD_sshiftRight]
    unfold zbt
    simp [hn]
  have k := key v.toInt.toNat hn
  rw [← e] at k
  exact k
theorem bt_or {b w : Int32} (h : 0 ≤ w.toInt ∧ w.toInt ≤ 31) {k : Nat} (hk : k < 32) : zbt (b ||| (1 <<< (w &&& 31))) k = (zbt b k || decide (k = w.toInt.toNat)) := by
  have hn : w.toInt.toNat < 32 := by omega
  have e := bt_ofn h
  have key : ∀ n : Nat, n < 32 → zbt (b ||| (1 <<< (Int32.ofNat n &&& 31))) k = (zbt b k || decide (k = n)) := by
    intro n hn
    unfold zbt
    show (b.toBitVec ||| ((1#32) <<< ((Int32.ofNat n &&& 31).toBitVec.smod 32))).getLsbD k = _
    rw [BitVec.getLsbD_or, BitVec.shiftLeft_eq', bt_sh n hn, BitVec.getLsbD_shiftLeft, BitVec.getLsbD_one]
    congr 1
    by_cases c : k = n
    · subst c
      simp [hk]
    · have : ¬ (k - n = 0 ∧ ¬ k < n) := by omega
      by_cases c2 : k < n
      · simp [c2, c]
      · have c3 : ¬ k - n = 0 := by omega
        simp [c3, c]
  have q := key w.toInt.toNat hn
  rw [← e] at q
  exact q
theorem php : ∀ (n : Nat) (g : Nat → Nat), (∀ k, k < n + 1 → g k < n) → (∀ j k, j < n + 1 → k < n + 1 → g j = g k → j = k) → False
  | 0, g, h1, _ => absurd (h1 0 (by omega)) (Nat.not_lt_zero _)
  | n + 1, g, h1, h2 => by
    refine php n (fun k => if g k = n then g (n + 1) else g k) (fun k hk => ?_) (fun j k hj hk e => ?_)
    · try dsimp only
      have a1 := h1 k (by omega)
      have a2 := h1 (n + 1) (by omega)
      by_cases c : g k = n
      · rw [if_pos c]
        have c2 : g (n + 1) ≠ n := fun z => by have := h2 k (n + 1) (by omega) (by omega) (c.trans z.symm); omega
        omega
      · rw [if_neg c]
        omega
    · try dsimp only at e
      by_cases c : g j = n
      · by_cases c2 : g k = n
        · exact h2 j k (by omega) (by omega) (c.trans c2.symm)
        · rw [if_pos c, if_neg c2] at e
          have := h2 (n + 1) k (by omega) (by omega) e
          omega
      · by_cases c2 : g k = n
        · rw [if_neg c, if_pos c2] at e
          have := h2 j (n + 1) (by omega) (by omega) e
          omega
        · rw [if_neg c, if_neg c2] at e
          exact h2 j k (by omega) (by omega) e
theorem ix32 {x y : Int32} (hx : 0 ≤ x.toInt ∧ x.toInt ≤ 44) (hy : 0 ≤ y.toInt ∧ y.toInt ≤ 40) : ((32 : Int32) * x + y).toNatClampNeg = 32 * x.toInt.toNat + y.toInt.toNat := by
  have e32 : (32 : Int32).toInt = 32 := by decide
  have e : ((32 : Int32) * x + y).toInt = 32 * x.toInt + y.toInt := by
    rw [Int32.toInt_add, Int32.toInt_mul, e32, zi_bm2 (e := 32 * x.toInt) (by omega) (by omega), zi_bm2 (by omega) (by omega)]
  show ((32 : Int32) * x + y).toInt.toNat = _
  rw [e]
  omega
theorem nb32 {v : Int32} (h : 0 ≤ v.toInt ∧ v.toInt ≤ 31) : vp_nar .byte (v.toInt8.toInt32) = v := by
  have all : (List.range 32).all (fun n => decide (vp_nar .byte ((Int32.ofNat n).toInt8.toInt32) = Int32.ofNat n)) = true := by decide +kernel
  have h1 := List.all_eq_true.mp all v.toInt.toNat (List.mem_range.mpr (by omega))
  rw [← bt_ofn h] at h1
  exact of_decide_eq_true h1
/-- the CLAIMS asked so far, in the class and in the reference -/
def CI (x1 n : Int32) (am ma : Nat → Int32) (as : Nat → Int32) (b : Int32) : Prop :=
  (0 ≤ n.toInt ∧ n.toInt ≤ 32) ∧ am x1.toInt.toNat = n ∧ (∀ k, k < n.toInt.toNat → ma (32 * x1.toInt.toNat + k) = as k) ∧ (∀ k, k < n.toInt.toNat → 0 ≤ (as k).toInt ∧ (as k).toInt ≤ 31) ∧ (∀ v, v < 32 → (zbt b v = true ↔ ∃ k, k < n.toInt.toNat ∧ (as k).toInt.toNat = v)) ∧ (∀ j k, j < n.toInt.toNat → k < n.toInt.toNat → as j = as k → j = k)
theorem CI_room {x1 n b v : Int32} {am ma as : Nat → Int32} (hI : CI x1 n am ma as b) (hv : 0 ≤ v.toInt ∧ v.toInt ≤ 31) (hb : zbt b v.toInt.toNat = false) : n.toInt < 32 := by
  obtain ⟨h1, h2, h3, h4, h5, h6⟩ := hI
  by_cases c : n.toInt < 32
  · exact c
  exfalso
  have hn : n.toInt.toNat = 32 := by omega
  refine php 32 (fun k => if k < 32 then (as k).toInt.toNat else v.toInt.toNat) (fun k hk => ?_) (fun j k hj hk e => ?_)
  · try dsimp only
    by_cases c2 : k < 32
    · rw [if_pos c2]
      have := h4 k (by omega)
      omega
    · rw [if_neg c2]
      omega
  · try dsimp only at e
    have hnot : ∀ q, q < 32 → (as q).toInt.toNat = v.toInt.toNat → False := fun q hq z => by
      have := (h5 v.toInt.toNat (by omega)).mpr ⟨q, by omega, z⟩
      rw [hb] at this
      cases this
    by_cases c2 : j < 32
    · by_cases c3 : k < 32
      · rw [if_pos c2, if_pos c3] at e
        have a1 := h4 j (by omega)
        have a2 := h4 k (by omega)
        exact h6 j k (by omega) (by omega) (Int32.toInt_inj.mp (by omega))
      · rw [if_pos c2, if_neg c3] at e
        exact absurd e (fun z => hnot j c2 z)
    · by_cases c3 : k < 32
      · rw [if_neg c2, if_pos c3] at e
        exact absurd e.symm (fun z => hnot k c3 z)
      · omega
theorem CI_ask {x1 n b v : Int32} {am ma as : Nat → Int32} (hI : CI x1 n am ma as b) (hx : 0 ≤ x1.toInt ∧ x1.toInt ≤ 44) (hv : 0 ≤ v.toInt ∧ v.toInt ≤ 31) (hb : zbt b v.toInt.toNat = false) {w : Int32} (hw : w = v) {i : Nat} (hi : i = 32 * x1.toInt.toNat + n.toInt.toNat) : CI x1 (n + 1) (upd am x1.toNatClampNeg (n + 1)) (upd ma i w) (upd as n.toNatClampNeg v) (b ||| (1 <<< (v &&& 31))) := by
  have hr := CI_room hI hv hb
  obtain ⟨h1, h2, h3, h4, h5, h6⟩ := hI
  have e1 := i32_s (a := n) (by omega)
  have hn : (n + 1).toInt.toNat = n.toInt.toNat + 1 := by omega
  have ex : x1.toNatClampNeg = x1.toInt.toNat := rfl
  have en : n.toNatClampNeg = n.toInt.toNat := rfl
  subst hw
  subst hi
  unfold CI
  rw [hn, ex, en]
  refine ⟨by omega, by unfold upd; rw [if_pos rfl], fun k hk => ?_, fun k hk => ?_, fun q hq => ?_, fun j k hj hk e => ?_⟩
  · unfold upd
    by_cases c : k = n.toInt.toNat
    · rw [if_pos (by omega), if_pos c]
    · rw [if_neg (by omega), if_neg c]
      exact h3 k (by omega)
  · unfold upd
    by_cases c : k = n.toInt.toNat
    · rw [if_pos c]; exact hv
    · rw [if_neg c]; exact h4 k (by omega)
  · rw [bt_or hv hq]
    constructor
    · intro z
      by_cases c : q = w.toInt.toNat
      · exact ⟨n.toInt.toNat, by omega, by unfold upd; rw [if_pos rfl]; exact c.symm⟩
      · have z : zbt b q = true := by rw [decide_eq_false c, Bool.or_false] at z; exact z
        obtain ⟨k, hk, ek⟩ := (h5 q hq).mp z
        exact ⟨k, by omega, by unfold upd; rw [if_neg (by omega)]; exact ek⟩
    · rintro ⟨k, hk, ek⟩
      unfold upd at ek
      by_cases c : k = n.toInt.toNat
      · rw [if_pos c] at ek
        rw [decide_eq_true ek.symm, Bool.or_true]
      · rw [if_neg c] at ek
        have := (h5 q hq).mpr ⟨k, by omega, ek⟩
        simp [this]
  · unfold upd at e
    have hnot : ∀ q, q < n.toInt.toNat → as q = w → False := fun q hq z => by
      have := (h5 w.toInt.toNat (by omega)).mpr ⟨q, hq, by rw [z]⟩
      rw [hb] at this
      cases this
    by_cases c : j = n.toInt.toNat
    · by_cases c2 : k = n.toInt.toNat
      · omega
      · rw [if_pos c, if_neg c2] at e
        exact absurd e.symm (fun z => hnot k (by omega) z)
    · by_cases c2 : k = n.toInt.toNat
      · rw [if_neg c, if_pos c2] at e
        exact absurd e (fun z => hnot j (by omega) z)
      · rw [if_neg c, if_neg c2] at e
        exact h6 j k (by omega) (by omega) e
set_option maxHeartbeats 4000000 in
set_option maxRecDepth 20000 in
theorem cb_hasAsked {su_who : Int32} {su_against : Int32} {su_kind : Int32} {su_won : Int32} {su_day : Int32} {su_land : Int32} {su_undoneFrom : Int32} {su_askedCount : Int32} {su_askedBits : Int32} {su_first : Int32} {su_foundSo : Int32} {su_foundNot : Int32} {su_fought : Int32} {su_needed : Int32} {v r : Int32} {u : Unit} (hv : 0 ≤ v.toInt ∧ v.toInt ≤ 31) (h : f_X7_hasAsked v su_who su_against su_kind su_won su_day su_land su_undoneFrom su_askedCount su_askedBits su_first su_foundSo su_foundNot su_fought su_needed = some (r, u)) : (zbt su_askedBits v.toInt.toNat = true ∧ r = 1) ∨ (zbt su_askedBits v.toInt.toNat = false ∧ r = 0) := by
  unfold f_X7_hasAsked B_X7_hasAsked_0 at h
  by_cases c : ((su_askedBits >>> (v &&& 31)) &&& 1) = 0
  · replace h := (congrArg Prod.fst (Option.some.inj (zk_t c h))).symm
    exact Or.inr ⟨(bt_0 hv).mp c, h⟩
  · replace h := (congrArg Prod.fst (Option.some.inj (zk_f c h))).symm
    have c2 : ¬ zbt su_askedBits v.toInt.toNat = false := fun z => c ((bt_0 hv).mpr z)
    exact Or.inl ⟨by simpa using c2, h⟩
set_option maxHeartbeats 4000000 in
set_option maxRecDepth 20000 in
theorem cb_ask {su_who : Int32} {su_against : Int32} {su_kind : Int32} {su_won : Int32} {su_day : Int32} {su_land : Int32} {su_undoneFrom : Int32} {su_askedCount : Int32} {su_askedBits : Int32} {su_first : Int32} {su_foundSo : Int32} {su_foundNot : Int32} {su_fought : Int32} {su_needed : Int32} {su_asked : Nat → Int32} {v u1 u2 : Int32} {u3 : Nat → Int32} (hr : su_askedCount.toInt < 32) (h0 : 0 ≤ su_askedCount.toInt ∧ su_askedCount.toInt ≤ 32) (h : f_X7_ask v su_who su_against su_kind su_won su_day su_land su_undoneFrom su_askedCount su_askedBits su_first su_foundSo su_foundNot su_fought su_needed su_asked = some (u1, u2, u3)) : u1 = su_askedCount + 1 ∧ u2 = su_askedBits ||| (1 <<< (v &&& 31)) ∧ u3 = upd su_asked su_askedCount.toNatClampNeg v := by
  unfold f_X7_ask B_X7_ask_0 at h
  replace h := zk_f (show ¬ (32 : Int32) ≤ su_askedCount by rw [i32_le, z32L_32]; omega) h
  replace h := zk_gd h
  obtain ⟨_, h⟩ := h
  replace h := zk_lt h
  obtain ⟨a1, e1, h⟩ := h
  replace h := zk_lt h
  obtain ⟨a2, e2, h⟩ := h
  replace h := zk_lt h
  obtain ⟨a3, e3, h⟩ := h
  replace h := Option.some.inj h
  exact ⟨by rw [← e2]; exact (congrArg Prod.fst h).symm, by rw [← e3]; exact (congrArg (fun z => z.2.1) h).symm, by rw [← e1]; exact (congrArg (fun z => z.2.2) h).symm⟩
set_option maxHeartbeats 4000000 in
set_option maxRecDepth 20000 in
theorem mb_wasL {mod_code : Int32} {court_shoeCount : Int32} {mod_claims : Int32} {ts : Int32} {at_ : Int32} {f : Int32} {court_suitCount : Int32} {mod_doneMany : Int32} {mod_undoneMany : Int32} {mod_open : Int32} {mod_laid : Int32} {mod_isBoth : Int32} {mod_wished : Int32} {mod_bestMany : Int32} {mod_bestRow : Int32} {mod_ringDigits : Int32} {mod_traces : Int32} {mod_askedMany : Nat → Int32} {mod_asked : Nat → Int32} {x1 su_askedCount : Int32} {su_asked : Nat → Int32} (hm : mod_askedMany x1.toInt.toNat = su_askedCount) (h3 : ∀ k, k < su_askedCount.toInt.toNat → mod_asked (32 * x1.toInt.toNat + k) = su_asked k) (h1 : 0 ≤ su_askedCount.toInt ∧ su_askedCount.toInt ≤ 32) (hx : 0 ≤ x1.toInt ∧ x1.toInt ≤ 44) : ∀ (n : Nat) (x2 x3 r : Int32) (u : Unit), 0 ≤ x3.toInt → x3.toInt ≤ su_askedCount.toInt → G_X12_wasAsked mod_code court_shoeCount mod_claims ts at_ f court_suitCount mod_doneMany mod_undoneMany mod_open mod_laid mod_isBoth mod_wished mod_bestMany mod_bestRow mod_ringDigits mod_traces mod_askedMany mod_asked n x1 x2 x3 = some (r, u) → (r = 1 ∧ ∃ k, x3.toInt.toNat ≤ k ∧ k < su_askedCount.toInt.toNat ∧ su_asked k = x2) ∨ (r = 0 ∧ ∀ k, x3.toInt.toNat ≤ k → k < su_askedCount.toInt.toNat → su_asked k ≠ x2) := by
  intro n
  induction n with
  | zero => intro x2 x3 r u _ _ h; cases h
  | succ n ih =>
    intro x2 x3 r u hx3 hx3b h
    replace h : B_X12_wasAsked_2 (G_X12_wasAsked mod_code court_shoeCount mod_claims ts at_ f court_suitCount mod_doneMany mod_undoneMany mod_open mod_laid mod_isBoth mod_wished mod_bestMany mod_bestRow mod_ringDigits mod_traces mod_askedMany mod_asked n) mod_code court_shoeCount mod_claims ts at_ f court_suitCount mod_doneMany mod_undoneMany mod_open mod_laid mod_isBoth mod_wished mod_bestMany mod_bestRow mod_ringDigits mod_traces mod_askedMany mod_asked x1 x2 x3 = some (r, u) := h
    unfold B_X12_wasAsked_2 at h
    replace h := zk_gd h
    obtain ⟨_, h⟩ := h
    rw [show mod_askedMany x1.toNatClampNeg = su_askedCount from hm] at h
    by_cases c : su_askedCount ≤ x3
    · replace h := (congrArg Prod.fst (Option.some.inj (zk_t c h))).symm
      rw [i32_le] at c
      exact Or.inr ⟨h, fun k k1 k2 => by omega⟩
    · replace h := zk_f c h
      rw [i32_le] at c
      replace h := zk_gd h
      obtain ⟨_, h⟩ := h
      rw [ix32 hx (by omega), h3 _ (by omega)] at h
      by_cases c2 : su_asked x3.toInt.toNat = x2
      · replace h := (congrArg Prod.fst (Option.some.inj (zk_t c2 h))).symm
        exact Or.inl ⟨h, x3.toInt.toNat, Nat.le_refl _, by omega, c2⟩
      · replace h := zk_f c2 h
        replace h := zk_lt h
        obtain ⟨v, e, h⟩ := h
        subst e
        have e3 := i32_s (a := x3) (by omega)
        rcases ih x2 _ r u (by omega) (by omega) h with ⟨q1, k, q2, q3, q4⟩ | ⟨q1, q2⟩
        · exact Or.inl ⟨q1, k, by omega, q3, q4⟩
        · refine Or.inr ⟨q1, fun k k1 k2 z => ?_⟩
          by_cases ck : k = x3.toInt.toNat
          · rw [ck] at z; exact c2 z
          · exact q2 k (by omega) k2 z
set_option maxHeartbeats 4000000 in
set_option maxRecDepth 20000 in
theorem mb_was {mod_code : Int32} {court_shoeCount : Int32} {mod_claims : Int32} {ts : Int32} {at_ : Int32} {f : Int32} {court_suitCount : Int32} {mod_doneMany : Int32} {mod_undoneMany : Int32} {mod_open : Int32} {mod_laid : Int32} {mod_isBoth : Int32} {mod_wished : Int32} {mod_bestMany : Int32} {mod_bestRow : Int32} {mod_ringDigits : Int32} {mod_traces : Int32} {mod_askedMany : Nat → Int32} {mod_asked : Nat → Int32} {n : Nat} {x1 v r su_askedCount su_askedBits : Int32} {u : Unit} {su_asked : Nat → Int32} (hI : CI x1 su_askedCount mod_askedMany mod_asked su_asked su_askedBits) (hx : 0 ≤ x1.toInt ∧ x1.toInt ≤ 44) (hv : 0 ≤ v.toInt ∧ v.toInt ≤ 31) (h : f_X12_wasAsked n x1 v mod_code court_shoeCount mod_claims ts at_ f court_suitCount mod_doneMany mod_undoneMany mod_open mod_laid mod_isBoth mod_wished mod_bestMany mod_bestRow mod_ringDigits mod_traces mod_askedMany mod_asked = some (r, u)) : (zbt su_askedBits v.toInt.toNat = true ∧ r = 1) ∨ (zbt su_askedBits v.toInt.toNat = false ∧ r = 0) := by
  obtain ⟨h1, h2, h3, h4, h5, h6⟩ := hI
  unfold f_X12_wasAsked B_X12_wasAsked_0 at h
  rcases mb_wasL h2 h3 h1 hx n v 0 r u (by decide) (by rw [z32_0]; omega) h with ⟨q1, k, _, q3, q4⟩ | ⟨q1, q2⟩
  · exact Or.inl ⟨(h5 _ (by omega)).mpr ⟨k, q3, by rw [q4]⟩, q1⟩
  · refine Or.inr ⟨?_, q1⟩
    by_cases c : zbt su_askedBits v.toInt.toNat = true
    · obtain ⟨k, hk, ek⟩ := (h5 _ (by omega)).mp c
      have a := h4 k hk
      exact absurd (Int32.toInt_inj.mp (by omega)) (q2 k (by rw [z32_0]; exact Nat.zero_le _) hk)
    · simpa using c
set_option maxHeartbeats 4000000 in
set_option maxRecDepth 20000 in
theorem mb_was1 {mod_code : Int32} {court_shoeCount : Int32} {mod_claims : Int32} {ts : Int32} {at_ : Int32} {f : Int32} {court_suitCount : Int32} {mod_doneMany : Int32} {mod_undoneMany : Int32} {mod_open : Int32} {mod_laid : Int32} {mod_isBoth : Int32} {mod_wished : Int32} {mod_bestMany : Int32} {mod_bestRow : Int32} {mod_ringDigits : Int32} {mod_traces : Int32} {mod_askedMany : Nat → Int32} {mod_asked : Nat → Int32} {n : Nat} {x1 v r su_askedCount su_askedBits : Int32} {u : Unit} {su_asked : Nat → Int32} (hI : CI x1 su_askedCount mod_askedMany mod_asked su_asked su_askedBits) (hx : 0 ≤ x1.toInt ∧ x1.toInt ≤ 44) (hv : 0 ≤ v.toInt ∧ v.toInt ≤ 31) (hb : zbt su_askedBits v.toInt.toNat = true) (h : f_X12_wasAsked n x1 v mod_code court_shoeCount mod_claims ts at_ f court_suitCount mod_doneMany mod_undoneMany mod_open mod_laid mod_isBoth mod_wished mod_bestMany mod_bestRow mod_ringDigits mod_traces mod_askedMany mod_asked = some (r, u)) : r = 1 := by
  rcases mb_was hI hx hv h with ⟨a, b⟩ | ⟨a, b⟩
  · exact b
  · rw [hb] at a; cases a
set_option maxHeartbeats 4000000 in
set_option maxRecDepth 20000 in
theorem mb_was0 {mod_code : Int32} {court_shoeCount : Int32} {mod_claims : Int32} {ts : Int32} {at_ : Int32} {f : Int32} {court_suitCount : Int32} {mod_doneMany : Int32} {mod_undoneMany : Int32} {mod_open : Int32} {mod_laid : Int32} {mod_isBoth : Int32} {mod_wished : Int32} {mod_bestMany : Int32} {mod_bestRow : Int32} {mod_ringDigits : Int32} {mod_traces : Int32} {mod_askedMany : Nat → Int32} {mod_asked : Nat → Int32} {n : Nat} {x1 v r su_askedCount su_askedBits : Int32} {u : Unit} {su_asked : Nat → Int32} (hI : CI x1 su_askedCount mod_askedMany mod_asked su_asked su_askedBits) (hx : 0 ≤ x1.toInt ∧ x1.toInt ≤ 44) (hv : 0 ≤ v.toInt ∧ v.toInt ≤ 31) (hb : zbt su_askedBits v.toInt.toNat = false) (h : f_X12_wasAsked n x1 v mod_code court_shoeCount mod_claims ts at_ f court_suitCount mod_doneMany mod_undoneMany mod_open mod_laid mod_isBoth mod_wished mod_bestMany mod_bestRow mod_ringDigits mod_traces mod_askedMany mod_asked = some (r, u)) : r = 0 := by
  rcases mb_was hI hx hv h with ⟨a, b⟩ | ⟨a, b⟩
  · rw [hb] at a; cases a
  · exact b
def FR (x1 : Int32) (am ma am2 ma2 : Nat → Int32) : Prop := (∀ j, j ≠ x1.toInt.toNat → am2 j = am j) ∧ (∀ j, (j < 32 * x1.toInt.toNat ∨ 32 * x1.toInt.toNat + 32 ≤ j) → ma2 j = ma j)
theorem FR_rf {x1 : Int32} {am ma : Nat → Int32} : FR x1 am ma am ma := ⟨fun _ _ => rfl, fun _ _ => rfl⟩
theorem FR_tr {x1 : Int32} {am ma am2 ma2 am3 ma3 : Nat → Int32} (h : FR x1 am ma am2 ma2) (h2 : FR x1 am2 ma2 am3 ma3) : FR x1 am ma am3 ma3 := ⟨fun j hj => (h2.1 j hj).trans (h.1 j hj), fun j hj => (h2.2 j hj).trans (h.2 j hj)⟩
theorem FR_up {x1 : Int32} {am ma : Nat → Int32} {w z : Int32} {i n : Nat} (hi : i = 32 * x1.toInt.toNat + n) (hn : n < 32) : FR x1 am ma (upd am x1.toNatClampNeg w) (upd ma i z) := by
  refine ⟨fun j hj => ?_, fun j hj => ?_⟩
  · unfold upd
    exact if_neg (show ¬ j = x1.toNatClampNeg from hj)
  · unfold upd
    rw [if_neg (by omega)]
set_option maxHeartbeats 4000000 in
set_option maxRecDepth 20000 in
theorem s2_loop {mod_code : Int32} {court_shoeCount : Int32} {mod_claims : Int32} {ts : Int32} {f : Int32} {court_suitCount : Int32} {mod_doneMany : Int32} {mod_undoneMany : Int32} {mod_open : Int32} {mod_laid : Int32} {mod_isBoth : Int32} {mod_wished : Int32} {mod_bestMany : Int32} {mod_bestRow : Int32} {mod_ringDigits : Int32} {mod_traces : Int32} {tm : Nat → Int32} {tb : Nat → Int32} {su_who : Int32} {su_against : Int32} {su_kind : Int32} {su_won : Int32} {su_day : Int32} {su_land : Int32} {su_undoneFrom : Int32} {su_first : Int32} {su_foundSo : Int32} {su_foundNot : Int32} {su_fought : Int32} {su_needed : Int32} {sp : Value} {x1 : Int32} (hT : TS ts) (hR : TR ts tb tm) (hf : f.toInt < 0) (hx : 0 ≤ x1.toInt ∧ x1.toInt ≤ 44) (hcc : 0 ≤ mod_claims.toInt ∧ mod_claims.toInt ≤ 32) : ∀ (N M : Nat) (at_ na su_askedCount su_askedBits : Int32) (su_asked mod_askedMany mod_asked : Nat → Int32) (RC : Int32 × Int32 × Int32 × Int32 × Int32 × (Nat → Int32)) (RM : Int32 × Int32 × (Nat → Int32) × (Nat → Int32)), PB ts at_ → CI x1 su_askedCount mod_askedMany mod_asked su_asked su_askedBits → G_X8_readClaims ts tb sp su_who su_against su_kind su_won su_day su_land su_undoneFrom su_first su_foundSo su_foundNot su_fought su_needed N mod_claims su_askedCount at_ na f su_askedCount su_askedBits su_asked = some RC → G_X12_readClaims mod_code court_shoeCount mod_claims ts court_suitCount mod_doneMany mod_undoneMany mod_open mod_laid mod_isBoth mod_wished mod_bestMany mod_bestRow mod_ringDigits mod_traces tm M x1 at_ f mod_askedMany mod_asked = some RM → (0 ≤ RC.2.2.1.toInt ∧ RM.2.1 = RC.2.2.1 ∧ FR x1 mod_askedMany mod_asked RM.2.2.1 RM.2.2.2) ∨ (RC.2.2.1 = f ∧ RM.2.1 = f ∧ RM.1 = RC.1 ∧ PB ts RC.1 ∧ CI x1 RC.2.2.2.1 RM.2.2.1 RM.2.2.2 RC.2.2.2.2.2 RC.2.2.2.2.1 ∧ FR x1 mod_askedMany mod_asked RM.2.2.1 RM.2.2.2) := by
  intro N
  induction N with
  | zero => intro M at_ na su_askedCount su_askedBits su_asked mod_askedMany mod_asked RC RM hp hI h k; cases h
  | succ N ih =>
    intro M at_ na su_askedCount su_askedBits su_asked mod_askedMany mod_asked RC RM hp hI h k
    cases M with
    | zero => cases k
    | succ M =>
      have hI1 := hI.1
      have hpa := hp.1
      replace h : B_X8_readClaims_2 (G_X8_readClaims ts tb sp su_who su_against su_kind su_won su_day su_land su_undoneFrom su_first su_foundSo su_foundNot su_fought su_needed N) ts tb sp su_who su_against su_kind su_won su_day su_land su_undoneFrom su_first su_foundSo su_foundNot su_fought su_needed mod_claims su_askedCount at_ na f su_askedCount su_askedBits su_asked = some RC := h
      replace k : B_X12_readClaims_0 (G_X12_readClaims mod_code court_shoeCount mod_claims ts court_suitCount mod_doneMany mod_undoneMany mod_open mod_laid mod_isBoth mod_wished mod_bestMany mod_bestRow mod_ringDigits mod_traces tm M) mod_code court_shoeCount mod_claims ts court_suitCount mod_doneMany mod_undoneMany mod_open mod_laid mod_isBoth mod_wished mod_bestMany mod_bestRow mod_ringDigits mod_traces tm x1 at_ f mod_askedMany mod_asked = some RM := k
      unfold B_X8_readClaims_2 at h
      unfold B_X12_readClaims_0 at k
      replace h := zk_f (by rw [i32_lt, z32L_32]; omega) h
      replace h := zk_f (by rw [i32_le, z32_0]; omega) h
      replace h := zk_o4 h
      obtain ⟨cr_3, cu_4, cu_5, cu_6, ch1, h⟩ := h
      rcases cb_numberN2 hT hf hp ch1 with ⟨ck2, cq4, cq5, cq6, cq7, ck3⟩ | ⟨ck2, cq8, cq9, cq10, cq11⟩
      · replace cq4 := cq4.symm
        subst cq4
        replace cq5 := cq5.symm
        subst cq5
        replace cq6 := cq6.symm
        subst cq6
        replace cq7 := cq7.symm
        subst cq7
        have ck3a := ck3.1
        have ck3b := nmv_b2 (ts := ts) (tb := tb) at_
        by_cases cc12 : mod_claims ≤ (nmv ts tb 2 at_)
        · replace h := zk_t cc12 h
          have cc12n := cc12
          (try simp only [i32_lt, i32_le, i32_e, z32_0, z32_1, z32L_2] at cc12n)
          unfold B_X8_readClaims_42 at h
          unfold B_X8_readClaims_43 at h
          replace h := zk_o1 h
          obtain ⟨cu_13, ch13, h⟩ := h
          obtain cq14 := cb_judge0N hf ch13
          replace cq14 := cq14.symm
          subst cq14
          replace h := zk_t (by rw [i32_le, z32_0]; omega) h
          unfold B_X8_readClaims_63 at h
          replace h := zk_o2 h
          obtain ⟨cr_20, cu_21, ch15, h⟩ := h
          obtain ⟨cq16, cq17⟩ := cb_acceptP (hp).1 ch15
          replace cq16 := cq16.symm
          subst cq16
          replace cq17 := cq17.symm
          subst cq17
          replace h := zk_t (by decide) h
          replace k := zk_f (by rw [i32_le, z32_0]; omega) k
          replace k := zk_o3 k
          obtain ⟨mr_2, mu_3, mu_4, mh1, k⟩ := k
          rcases mb_number2 (m := mod_claims.toInt) hT hR hf hp rfl mh1 with ⟨mk2, mk3, _, _, _, mk4⟩ | ⟨mk2, mk3, mq5, mq6, mq7, mk4⟩ | ⟨mk2, _, _, _⟩
          · exfalso; omega
          · replace mq5 := mq5.symm
            subst mq5
            replace mq6 := mq6.symm
            subst mq6
            replace mq7 := mq7.symm
            subst mq7
            have mk4a := mk4.1
            have mk4b := nmv_b2 (ts := ts) (tb := tb) at_
            replace k := zk_t (by rw [i32_le, z32_0]; omega) k
            unfold B_X12_readClaims_43 at k
            rw [(show mod_askedMany x1.toNatClampNeg = su_askedCount from hI.2.1)] at k
            replace k := zk_f (by rw [i32_lt, z32_0]; omega) k
            replace h := Option.some.inj h
            replace k := Option.some.inj k
            rw [← h, ← k]
            first | (exfalso; omega) | exact Or.inl ⟨(hp).1, rfl, FR_rf⟩
          · exact (zx_2 ck2 mk2).elim
        · replace h := zk_f cc12 h
          have cc12n := cc12
          (try simp only [i32_lt, i32_le, i32_e, z32_0, z32_1, z32L_2] at cc12n)
          replace h := zk_o2 h
          obtain ⟨cr_9, cu_10, ch18, h⟩ := h
          rcases cb_hasAsked (by first | omega | decide) ch18 with ⟨ck19, cq20⟩ | ⟨ck19, cq21⟩
          · replace cq20 := cq20.symm
            subst cq20
            replace h := zk_f (by decide) h
            unfold B_X8_readClaims_42 at h
            unfold B_X8_readClaims_43 at h
            replace h := zk_o1 h
            obtain ⟨cu_13, ch22, h⟩ := h
            obtain cq23 := cb_judge0N hf ch22
            replace cq23 := cq23.symm
            subst cq23
            replace h := zk_t (by rw [i32_le, z32_0]; omega) h
            unfold B_X8_readClaims_63 at h
            replace h := zk_o2 h
            obtain ⟨cr_20, cu_21, ch24, h⟩ := h
            obtain ⟨cq25, cq26⟩ := cb_acceptP (hp).1 ch24
            replace cq25 := cq25.symm
            subst cq25
            replace cq26 := cq26.symm
            subst cq26
            replace h := zk_t (by decide) h
            replace k := zk_f (by rw [i32_le, z32_0]; omega) k
            replace k := zk_o3 k
            obtain ⟨mr_2, mu_3, mu_4, mh8, k⟩ := k
            rcases mb_number2 (m := mod_claims.toInt) hT hR hf hp rfl mh8 with ⟨mk9, mk10, mq12, mq13, mq14, mk11⟩ | ⟨mk9, mk10, _, _, _, mk11⟩ | ⟨mk9, _, _, _⟩
            · replace mq12 := mq12.symm
              subst mq12
              replace mq13 := mq13.symm
              subst mq13
              replace mq14 := mq14.symm
              subst mq14
              have mk11a := mk11.1
              have mk11b := nmv_b2 (ts := ts) (tb := tb) at_
              replace k := zk_f (by rw [i32_le, z32_0]; omega) k
              replace k := zk_o2 k
              obtain ⟨mr_7, mu_8, mh15, k⟩ := k
              obtain mq17 := mb_was1 hI hx (by first | omega | decide) ck19 mh15
              replace mq17 := mq17.symm
              subst mq17
              replace k := zk_f (by decide) k
              replace k := zk_o1 k
              obtain ⟨mu_11, mh18, k⟩ := k
              obtain mq19 := mb_wrongAtN hf mh18
              replace mq19 := mq19.symm
              subst mq19
              unfold B_X12_readClaims_43 at k
              rw [(show mod_askedMany x1.toNatClampNeg = su_askedCount from hI.2.1)] at k
              replace k := zk_f (by rw [i32_lt, z32_0]; omega) k
              replace h := Option.some.inj h
              replace k := Option.some.inj k
              rw [← h, ← k]
              first | (exfalso; omega) | exact Or.inl ⟨(hp).1, rfl, FR_rf⟩
            · exfalso; omega
            · exact (zx_2 ck2 mk9).elim
          · replace cq21 := cq21.symm
            subst cq21
            replace h := zk_t (by decide) h
            unfold B_X8_readClaims_43 at h
            replace h := zk_o1 h
            obtain ⟨cu_13, ch27, h⟩ := h
            obtain cq28 := cb_judge1 ch27
            replace cq28 := cq28.symm
            subst cq28
            replace h := zk_f (by rw [i32_le, z32_0]; omega) h
            replace h := zk_o3 h
            obtain ⟨cu_16, cu_17, cu_18, ch29, h⟩ := h
            obtain ⟨cq31, cq32, cq33⟩ := cb_ask (CI_room hI (by first | omega | decide) ck19) hI.1 ch29
            replace cq31 := cq31.symm
            subst cq31
            replace cq32 := cq32.symm
            subst cq32
            replace cq33 := cq33.symm
            subst cq33
            unfold B_X8_readClaims_63 at h
            replace h := zk_o2 h
            obtain ⟨cr_20, cu_21, ch34, h⟩ := h
            rcases cb_acceptN (n := 44) hT hf ck3 (by decide) ch34 with ⟨ck35, cq37, cq38, ck36⟩ | ⟨ck35, cq39, cq40⟩
            · replace cq37 := cq37.symm
              subst cq37
              replace cq38 := cq38.symm
              subst cq38
              have ck36a := ck36.1
              replace h := zk_f (by decide) h
              replace h := zk_lt h
              obtain ⟨cv_24, ce41, h⟩ := h
              subst ce41
              have hroom := CI_room hI (by first | omega | decide) ck19
              replace k := zk_f (by rw [i32_le, z32_0]; omega) k
              replace k := zk_o3 k
              obtain ⟨mr_2, mu_3, mu_4, mh20, k⟩ := k
              rcases mb_number2 (m := mod_claims.toInt) hT hR hf hp rfl mh20 with ⟨mk21, mk22, mq24, mq25, mq26, mk23⟩ | ⟨mk21, mk22, _, _, _, mk23⟩ | ⟨mk21, _, _, _⟩
              · replace mq24 := mq24.symm
                subst mq24
                replace mq25 := mq25.symm
                subst mq25
                replace mq26 := mq26.symm
                subst mq26
                have mk23a := mk23.1
                have mk23b := nmv_b2 (ts := ts) (tb := tb) at_
                replace k := zk_f (by rw [i32_le, z32_0]; omega) k
                replace k := zk_o2 k
                obtain ⟨mr_7, mu_8, mh27, k⟩ := k
                obtain mq29 := mb_was0 hI hx (by first | omega | decide) ck19 mh27
                replace mq29 := mq29.symm
                subst mq29
                replace k := zk_t (by decide) k
                unfold B_X12_readClaims_43 at k
                rw [(show mod_askedMany x1.toNatClampNeg = su_askedCount from hI.2.1)] at k
                replace k := zk_t (by rw [i32_lt, z32_0]; omega) k
                replace k := zk_gd k
                obtain ⟨_, k⟩ := k
                replace k := zk_lt k
                obtain ⟨mv_15, me30, k⟩ := k
                subst me30
                replace k := zk_gd k
                obtain ⟨_, k⟩ := k
                replace k := zk_lt k
                obtain ⟨mf_17, me31, k⟩ := k
                replace k := zk_gd k
                obtain ⟨_, k⟩ := k
                replace k := zk_lt k
                obtain ⟨mv_19, me32, k⟩ := k
                subst me32
                replace k := zk_gd k
                obtain ⟨_, k⟩ := k
                replace k := zk_lt k
                obtain ⟨mf_21, me33, k⟩ := k
                replace k := zk_o2 k
                obtain ⟨mr_22, mu_23, mh34, k⟩ := k
                rcases mb_isNext (n := 44) hT hR mk23 (by decide) mh34 with ⟨mk35, mq37, mq38, mk36⟩ | ⟨mk35, _, _⟩
                · replace mq37 := mq37.symm
                  subst mq37
                  replace mq38 := mq38.symm
                  subst mq38
                  have mk36a := mk36.1
                  replace k := zk_f (by decide) k
                  subst me31
                  subst me33
                  rcases ih M _ _ _ _ _ _ _ RC RM ck36 (CI_ask hI hx (by omega) ck19 (nb32 (by omega)) (ix32 hx (by omega))) h k with q | ⟨q1, q2, q3, q4, q5, q6⟩
                  · exact Or.inl ⟨q.1, q.2.1, FR_tr (FR_up (ix32 hx (by omega)) (by omega)) q.2.2⟩
                  · exact Or.inr ⟨q1, q2, q3, q4, q5, FR_tr (FR_up (ix32 hx (by omega)) (by omega)) q6⟩
                · exact (mk35 ck35).elim
              · exfalso; omega
              · exact (zx_2 ck2 mk21).elim
            · replace cq39 := cq39.symm
              subst cq39
              replace cq40 := cq40.symm
              subst cq40
              replace h := zk_t (by decide) h
              have hroom := CI_room hI (by first | omega | decide) ck19
              replace k := zk_f (by rw [i32_le, z32_0]; omega) k
              replace k := zk_o3 k
              obtain ⟨mr_2, mu_3, mu_4, mh39, k⟩ := k
              rcases mb_number2 (m := mod_claims.toInt) hT hR hf hp rfl mh39 with ⟨mk40, mk41, mq43, mq44, mq45, mk42⟩ | ⟨mk40, mk41, _, _, _, mk42⟩ | ⟨mk40, _, _, _⟩
              · replace mq43 := mq43.symm
                subst mq43
                replace mq44 := mq44.symm
                subst mq44
                replace mq45 := mq45.symm
                subst mq45
                have mk42a := mk42.1
                have mk42b := nmv_b2 (ts := ts) (tb := tb) at_
                replace k := zk_f (by rw [i32_le, z32_0]; omega) k
                replace k := zk_o2 k
                obtain ⟨mr_7, mu_8, mh46, k⟩ := k
                obtain mq48 := mb_was0 hI hx (by first | omega | decide) ck19 mh46
                replace mq48 := mq48.symm
                subst mq48
                replace k := zk_t (by decide) k
                unfold B_X12_readClaims_43 at k
                rw [(show mod_askedMany x1.toNatClampNeg = su_askedCount from hI.2.1)] at k
                replace k := zk_t (by rw [i32_lt, z32_0]; omega) k
                replace k := zk_gd k
                obtain ⟨_, k⟩ := k
                replace k := zk_lt k
                obtain ⟨mv_15, me49, k⟩ := k
                subst me49
                replace k := zk_gd k
                obtain ⟨_, k⟩ := k
                replace k := zk_lt k
                obtain ⟨mf_17, me50, k⟩ := k
                replace k := zk_gd k
                obtain ⟨_, k⟩ := k
                replace k := zk_lt k
                obtain ⟨mv_19, me51, k⟩ := k
                subst me51
                replace k := zk_gd k
                obtain ⟨_, k⟩ := k
                replace k := zk_lt k
                obtain ⟨mf_21, me52, k⟩ := k
                replace k := zk_o2 k
                obtain ⟨mr_22, mu_23, mh53, k⟩ := k
                rcases mb_isNext (n := 44) hT hR mk42 (by decide) mh53 with ⟨mk54, _, _, mk55⟩ | ⟨mk54, mq56, mq57⟩
                · exact (ck35 mk54).elim
                · replace mq56 := mq56.symm
                  subst mq56
                  replace mq57 := mq57.symm
                  subst mq57
                  replace k := zk_t (by decide) k
                  subst me50
                  subst me52
                  replace h := Option.some.inj h
                  replace k := Option.some.inj k
                  rw [← h, ← k]
                  first | (exfalso; omega) | exact Or.inr ⟨rfl, rfl, rfl, ck3, (CI_ask hI hx (by omega) ck19 (nb32 (by omega)) (ix32 hx (by omega))), (FR_up (ix32 hx (by omega)) (by omega))⟩
              · exfalso; omega
              · exact (zx_2 ck2 mk40).elim
      · replace cq8 := cq8.symm
        subst cq8
        replace cq9 := cq9.symm
        subst cq9
        replace cq10 := cq10.symm
        subst cq10
        replace cq11 := cq11.symm
        subst cq11
        by_cases cc42 : mod_claims ≤ (0 : Int32)
        · replace h := zk_t cc42 h
          have cc42n := cc42
          (try simp only [i32_lt, i32_le, i32_e, z32_0, z32_1] at cc42n)
          unfold B_X8_readClaims_42 at h
          unfold B_X8_readClaims_43 at h
          replace h := zk_o1 h
          obtain ⟨cu_13, ch43, h⟩ := h
          obtain cq44 := cb_judgeP (hp).1 ch43
          replace cq44 := cq44.symm
          subst cq44
          replace h := zk_t (by rw [i32_le, z32_0]; omega) h
          unfold B_X8_readClaims_63 at h
          replace h := zk_o2 h
          obtain ⟨cr_20, cu_21, ch45, h⟩ := h
          obtain ⟨cq46, cq47⟩ := cb_acceptP (hp).1 ch45
          replace cq46 := cq46.symm
          subst cq46
          replace cq47 := cq47.symm
          subst cq47
          replace h := zk_t (by decide) h
          replace k := zk_f (by rw [i32_le, z32_0]; omega) k
          replace k := zk_o3 k
          obtain ⟨mr_2, mu_3, mu_4, mh58, k⟩ := k
          rcases mb_number2 (m := mod_claims.toInt) hT hR hf hp rfl mh58 with ⟨mk59, mk60, _, _, _, mk61⟩ | ⟨mk59, mk60, _, _, _, mk61⟩ | ⟨mk59, mq62, mq63, mq64⟩
          · exact (zx_2 mk59 ck2).elim
          · exact (zx_2 mk59 ck2).elim
          · replace mq62 := mq62.symm
            subst mq62
            replace mq63 := mq63.symm
            subst mq63
            replace mq64 := mq64.symm
            subst mq64
            replace k := zk_t (by rw [i32_le, z32_0]; omega) k
            unfold B_X12_readClaims_43 at k
            rw [(show mod_askedMany x1.toNatClampNeg = su_askedCount from hI.2.1)] at k
            replace k := zk_f (by rw [i32_lt, z32_0]; omega) k
            replace h := Option.some.inj h
            replace k := Option.some.inj k
            rw [← h, ← k]
            first | (exfalso; omega) | exact Or.inl ⟨(hp).1, rfl, FR_rf⟩
        · replace h := zk_f cc42 h
          have cc42n := cc42
          (try simp only [i32_lt, i32_le, i32_e, z32_0, z32_1] at cc42n)
          replace h := zk_o2 h
          obtain ⟨cr_9, cu_10, ch48, h⟩ := h
          rcases cb_hasAsked (by first | omega | decide) ch48 with ⟨ck49, cq50⟩ | ⟨ck49, cq51⟩
          · replace cq50 := cq50.symm
            subst cq50
            replace h := zk_f (by decide) h
            unfold B_X8_readClaims_42 at h
            unfold B_X8_readClaims_43 at h
            replace h := zk_o1 h
            obtain ⟨cu_13, ch52, h⟩ := h
            obtain cq53 := cb_judgeP (hp).1 ch52
            replace cq53 := cq53.symm
            subst cq53
            replace h := zk_t (by rw [i32_le, z32_0]; omega) h
            unfold B_X8_readClaims_63 at h
            replace h := zk_o2 h
            obtain ⟨cr_20, cu_21, ch54, h⟩ := h
            obtain ⟨cq55, cq56⟩ := cb_acceptP (hp).1 ch54
            replace cq55 := cq55.symm
            subst cq55
            replace cq56 := cq56.symm
            subst cq56
            replace h := zk_t (by decide) h
            replace k := zk_f (by rw [i32_le, z32_0]; omega) k
            replace k := zk_o3 k
            obtain ⟨mr_2, mu_3, mu_4, mh65, k⟩ := k
            rcases mb_number2 (m := mod_claims.toInt) hT hR hf hp rfl mh65 with ⟨mk66, mk67, _, _, _, mk68⟩ | ⟨mk66, mk67, _, _, _, mk68⟩ | ⟨mk66, mq69, mq70, mq71⟩
            · exact (zx_2 mk66 ck2).elim
            · exact (zx_2 mk66 ck2).elim
            · replace mq69 := mq69.symm
              subst mq69
              replace mq70 := mq70.symm
              subst mq70
              replace mq71 := mq71.symm
              subst mq71
              replace k := zk_t (by rw [i32_le, z32_0]; omega) k
              unfold B_X12_readClaims_43 at k
              rw [(show mod_askedMany x1.toNatClampNeg = su_askedCount from hI.2.1)] at k
              replace k := zk_f (by rw [i32_lt, z32_0]; omega) k
              replace h := Option.some.inj h
              replace k := Option.some.inj k
              rw [← h, ← k]
              first | (exfalso; omega) | exact Or.inl ⟨(hp).1, rfl, FR_rf⟩
          · replace cq51 := cq51.symm
            subst cq51
            replace h := zk_t (by decide) h
            unfold B_X8_readClaims_43 at h
            replace h := zk_o1 h
            obtain ⟨cu_13, ch57, h⟩ := h
            obtain cq58 := cb_judgeP (hp).1 ch57
            replace cq58 := cq58.symm
            subst cq58
            replace h := zk_t (by rw [i32_le, z32_0]; omega) h
            unfold B_X8_readClaims_63 at h
            replace h := zk_o2 h
            obtain ⟨cr_20, cu_21, ch59, h⟩ := h
            obtain ⟨cq60, cq61⟩ := cb_acceptP (hp).1 ch59
            replace cq60 := cq60.symm
            subst cq60
            replace cq61 := cq61.symm
            subst cq61
            replace h := zk_t (by decide) h
            have hroom := CI_room hI (by first | omega | decide) ck49
            replace k := zk_f (by rw [i32_le, z32_0]; omega) k
            replace k := zk_o3 k
            obtain ⟨mr_2, mu_3, mu_4, mh72, k⟩ := k
            rcases mb_number2 (m := mod_claims.toInt) hT hR hf hp rfl mh72 with ⟨mk73, mk74, _, _, _, mk75⟩ | ⟨mk73, mk74, _, _, _, mk75⟩ | ⟨mk73, mq76, mq77, mq78⟩
            · exact (zx_2 mk73 ck2).elim
            · exact (zx_2 mk73 ck2).elim
            · replace mq76 := mq76.symm
              subst mq76
              replace mq77 := mq77.symm
              subst mq77
              replace mq78 := mq78.symm
              subst mq78
              replace k := zk_t (by rw [i32_le, z32_0]; omega) k
              unfold B_X12_readClaims_43 at k
              rw [(show mod_askedMany x1.toNatClampNeg = su_askedCount from hI.2.1)] at k
              replace k := zk_f (by rw [i32_lt, z32_0]; omega) k
              replace h := Option.some.inj h
              replace k := Option.some.inj k
              rw [← h, ← k]
              first | (exfalso; omega) | exact Or.inl ⟨(hp).1, rfl, FR_rf⟩

set_option maxHeartbeats 4000000 in
set_option maxRecDepth 20000 in
theorem fm_83 {mod_code : Int32} {court_shoeCount : Int32} {mod_claims : Int32} {ts : Int32} {at_ : Int32} {f : Int32} {court_suitCount : Int32} {mod_doneMany : Int32} {mod_undoneMany : Int32} {mod_open : Int32} {mod_laid : Int32} {mod_isBoth : Int32} {mod_wished : Int32} {mod_bestMany : Int32} {mod_bestRow : Int32} {mod_ringDigits : Int32} {mod_traces : Int32} {tm : Nat → Int32} {mod_askedMany : Nat → Int32} {mod_asked : Nat → Int32} {mod_pointIs : Nat → Int32} {mod_endKind : Nat → Int32} {mod_isWon : Nat → Int32} {mod_firstMany : Nat → Int32} {mod_suedBy : Nat → Int32} {mod_suedOn : Nat → Int32} {mod_suitDay : Nat → Int32} {mod_suitLand : Nat → Int32} {M : Nat} {x1 : Int32} {R : Int32 × Int32 × (Nat → Int32) × (Nat → Int32) × (Nat → Int32) × (Nat → Int32) × (Nat → Int32) × (Nat → Int32) × (Nat → Int32) × (Nat → Int32) × (Nat → Int32) × (Nat → Int32)} (hf : 0 ≤ f.toInt) (h : G_X12_readSuit mod_code court_shoeCount mod_claims ts court_suitCount mod_doneMany mod_undoneMany mod_open mod_laid mod_isBoth mod_wished mod_bestMany mod_bestRow mod_ringDigits mod_traces tm M x1 at_ f mod_suedBy mod_suedOn mod_endKind mod_isWon mod_suitDay mod_suitLand mod_askedMany mod_firstMany mod_asked mod_pointIs = some R) : R.2.1 = f ∧ R.2.2 = (mod_suedBy, mod_suedOn, mod_endKind, mod_isWon, mod_suitDay, mod_suitLand, mod_askedMany, mod_firstMany, mod_asked, mod_pointIs) := by
  cases M with
  | zero => cases h
  | succ M =>
  replace h : B_X12_readSuit_83 (G_X12_readSuit mod_code court_shoeCount mod_claims ts court_suitCount mod_doneMany mod_undoneMany mod_open mod_laid mod_isBoth mod_wished mod_bestMany mod_bestRow mod_ringDigits mod_traces tm M) mod_code court_shoeCount mod_claims ts court_suitCount mod_doneMany mod_undoneMany mod_open mod_laid mod_isBoth mod_wished mod_bestMany mod_bestRow mod_ringDigits mod_traces tm x1 at_ f mod_suedBy mod_suedOn mod_endKind mod_isWon mod_suitDay mod_suitLand mod_askedMany mod_firstMany mod_asked mod_pointIs = some R := h
  unfold B_X12_readSuit_83 at h
  replace h := zk_t (by rw [i32_le, z32_0]; omega) h
  unfold B_X12_readSuit_107 at h
  replace h := zk_o3 h
  obtain ⟨mr_43, mu_44, mu_45, mh1, h⟩ := h
  obtain ⟨mq2, mq3, mq4⟩ := mb_takesP hf mh1
  replace mq2 := mq2.symm
  subst mq2
  replace mq3 := mq3.symm
  subst mq3
  replace mq4 := mq4.symm
  subst mq4
  replace h := zk_t (by decide) h
  rw [← Option.some.inj h]
  exact ⟨rfl, rfl⟩
set_option maxHeartbeats 4000000 in
set_option maxRecDepth 20000 in
theorem fq_ptsG {ts : Int32} {at_ : Int32} {f : Int32} {tb : Nat → Int32} {su_who : Int32} {su_against : Int32} {su_kind : Int32} {su_won : Int32} {su_day : Int32} {su_land : Int32} {su_undoneFrom : Int32} {su_askedCount : Int32} {su_askedBits : Int32} {su_first : Int32} {su_foundSo : Int32} {su_foundNot : Int32} {su_fought : Int32} {su_needed : Int32} {sp : Value} {na : Int32} {N : Nat} {i : Int32} {R : Int32 × Int32 × Int32 × Int32 × Int32 × Int32 × Int32} (hf : 0 ≤ f.toInt) (h : G_X8_readPoints ts tb sp su_who su_against su_kind su_won su_day su_land su_undoneFrom su_askedCount su_askedBits su_first N i at_ na f su_foundSo su_foundNot su_fought su_needed = some R) : R.2.2.1 = f := by
  cases N with
  | zero => cases h
  | succ N =>
  replace h : B_X8_readPoints_2 (G_X8_readPoints ts tb sp su_who su_against su_kind su_won su_day su_land su_undoneFrom su_askedCount su_askedBits su_first N) ts tb sp su_who su_against su_kind su_won su_day su_land su_undoneFrom su_askedCount su_askedBits su_first i at_ na f su_foundSo su_foundNot su_fought su_needed = some R := h
  unfold B_X8_readPoints_2 at h
  by_cases cc1 : (32 : Int32) < i
  · replace h := zk_t cc1 h
    have cc1n := cc1
    (try simp only [i32_lt, i32_le, i32_e, z32_0, z32_1, z32L_32] at cc1n)
    rw [← Option.some.inj h]
  · replace h := zk_f cc1 h
    have cc1n := cc1
    (try simp only [i32_lt, i32_le, i32_e, z32_0, z32_1, z32L_32] at cc1n)
    replace h := zk_o2 h
    obtain ⟨cr_2, cu_3, ch2, h⟩ := h
    obtain ⟨cq3, cq4⟩ := cb_acceptP hf ch2
    replace cq3 := cq3.symm
    subst cq3
    replace cq4 := cq4.symm
    subst cq4
    replace h := zk_t (by decide) h
    rw [← Option.some.inj h]
def PV (so no fo ne : Int32) (p : Nat) : Int := (if zbt so p = true then 1 else 0) + (if zbt no p = true then 2 else 0) + (if zbt fo p = true then 4 else 0) + (if zbt ne p = true then 8 else 0)
def PI (x1 so no fo ne : Int32) (pi : Nat → Int32) : Prop := ∀ p, p < 32 → (pi (32 * x1.toInt.toNat + p)).toInt = PV so no fo ne p ∧ ¬ (zbt so p = true ∧ zbt no p = true) ∧ ((zbt fo p = true ∨ zbt ne p = true) → (zbt so p = true ∨ zbt no p = true))
def BS (b b' : Int32) (p : Nat) (A : Bool) : Prop := ∀ q, q < 32 → zbt b' q = (zbt b q || (decide (q = p) && A))
theorem bt_or2 {a b : Int32} {k : Nat} : zbt (a ||| b) k = (zbt a k || zbt b k) := by
  unfold zbt
  rw [Int32.toBitVec_or, BitVec.getLsbD_or]
theorem bt_z {k : Nat} : zbt 0 k = false := by
  unfold zbt
  show (0#32).getLsbD k = false
  exact BitVec.getLsbD_zero
theorem BS_t {b v : Int32} (hv : 0 ≤ v.toInt ∧ v.toInt ≤ 31) : BS b (b ||| (1 <<< (v &&& 31))) v.toInt.toNat true := fun q hq => by rw [bt_or hv hq, Bool.and_true]
theorem BS_0 {b : Int32} {p : Nat} : BS b (b ||| 0) p false := fun q hq => by rw [bt_or2, bt_z, Bool.and_false]
theorem BS_u {b : Int32} {p : Nat} : BS b b p false := fun q hq => by rw [Bool.and_false, Bool.or_false]
theorem PI_add {x1 so no fo ne so' no' fo' ne' val : Int32} {pi : Nat → Int32} {p i : Nat} {A B F N : Bool} (h : PI x1 so no fo ne pi) (hp : p < 32) (hf : zbt (so ||| no) p = false) (hAB : A = !B) (h1 : BS so so' p A) (h2 : BS no no' p B) (h3 : BS fo fo' p F) (h4 : BS ne ne' p N) (hval : val.toInt = (if A = true then 1 else 0) + (if B = true then 2 else 0) + (if F = true then 4 else 0) + (if N = true then 8 else 0)) (hi : i = 32 * x1.toInt.toNat + p) : PI x1 so' no' fo' ne' (upd pi i val) := by
  intro q hq
  obtain ⟨a1, a2, a3⟩ := h q hq
  unfold upd PV
  rw [h1 q hq, h2 q hq, h3 q hq, h4 q hq]
  by_cases c : q = p
  · subst c
    rw [if_pos (by omega)]
    rw [bt_or2] at hf
    have e1 : zbt so q = false := by simpa using (Bool.or_eq_false_iff.mp hf).1
    have e2 : zbt no q = false := by simpa using (Bool.or_eq_false_iff.mp hf).2
    have e3 : zbt fo q = false := by
      by_cases c : zbt fo q = true
      · have := a3 (Or.inl c)
        rw [e1, e2] at this
        exact absurd this (by decide)
      · simpa using c
    have e4 : zbt ne q = false := by
      by_cases c : zbt ne q = true
      · have := a3 (Or.inr c)
        rw [e1, e2] at this
        exact absurd this (by decide)
      · simpa using c
    rw [e1, e2, e3, e4, hval]
    subst hAB
    cases B <;> cases F <;> cases N <;> simp
  · rw [if_neg (by omega), a1]
    have e : decide (q = p) = false := by simp [c]
    rw [e]
    simp only [Bool.false_and, Bool.or_false]
    exact ⟨rfl, a2, a3⟩
theorem PI_le {x1 so no fo ne v : Int32} {pi : Nat → Int32} (h : PI x1 so no fo ne pi) (hx : 0 ≤ x1.toInt ∧ x1.toInt ≤ 44) (hv : 0 ≤ v.toInt ∧ v.toInt ≤ 31) (hf : zbt (so ||| no) v.toInt.toNat = false) : pi ((32 : Int32) * x1 + v).toNatClampNeg ≤ 0 := by
  obtain ⟨a1, a2, a3⟩ := h v.toInt.toNat (by omega)
  rw [ix32 hx (by omega), i32_le, z32_0, a1]
  rw [bt_or2] at hf
  have e1 : zbt so v.toInt.toNat = false := by simpa using (Bool.or_eq_false_iff.mp hf).1
  have e2 : zbt no v.toInt.toNat = false := by simpa using (Bool.or_eq_false_iff.mp hf).2
  unfold PV
  rw [e1, e2] at a3 ⊢
  by_cases c : zbt fo v.toInt.toNat = true
  · exact absurd (a3 (Or.inl c)) (by decide)
  · by_cases c2 : zbt ne v.toInt.toNat = true
    · exact absurd (a3 (Or.inr c2)) (by decide)
    · rw [if_neg c, if_neg c2]
      decide
theorem PI_nle {x1 so no fo ne v : Int32} {pi : Nat → Int32} (h : PI x1 so no fo ne pi) (hx : 0 ≤ x1.toInt ∧ x1.toInt ≤ 44) (hv : 0 ≤ v.toInt ∧ v.toInt ≤ 31) (hf : zbt (so ||| no) v.toInt.toNat = true) : ¬ pi ((32 : Int32) * x1 + v).toNatClampNeg ≤ 0 := by
  obtain ⟨a1, a2, a3⟩ := h v.toInt.toNat (by omega)
  rw [ix32 hx (by omega), i32_le, z32_0, a1]
  rw [bt_or2] at hf
  unfold PV
  have h4 : ∀ c : Prop, [Decidable c] → (0 : Int) ≤ (if c then 4 else 0) := fun c _ => by split <;> omega
  have h8 : ∀ c : Prop, [Decidable c] → (0 : Int) ≤ (if c then 8 else 0) := fun c _ => by split <;> omega
  have p4 := h4 (zbt fo v.toInt.toNat = true)
  have p8 := h8 (zbt ne v.toInt.toNat = true)
  rcases (Bool.or_eq_true _ _).mp hf with e | e
  · have h2 : (0 : Int) ≤ (if zbt no v.toInt.toNat = true then 2 else 0) := by split <;> omega
    rw [if_pos e]
    omega
  · have h1 : (0 : Int) ≤ (if zbt so v.toInt.toNat = true then 1 else 0) := by split <;> omega
    rw [if_pos e]
    omega
def CG (n : Int32) (as : Nat → Int32) (b : Int32) : Prop := ∃ am ma, CI 0 n am ma as b
theorem CI_congr {x1 n b b' : Int32} {am ma as : Nat → Int32} (h : CI x1 n am ma as b) (hb : ∀ v, v < 32 → zbt b' v = zbt b v) : CI x1 n am ma as b' := by
  obtain ⟨h1, h2, h3, h4, h5, h6⟩ := h
  exact ⟨h1, h2, h3, h4, fun v hv => by rw [hb v hv]; exact h5 v hv, h6⟩
theorem CG_room {n b v : Int32} {as : Nat → Int32} (h : CG n as b) (hv : 0 ≤ v.toInt ∧ v.toInt ≤ 31) (hb : zbt b v.toInt.toNat = false) : 0 ≤ n.toInt ∧ n.toInt < 32 := by
  obtain ⟨am, ma, h⟩ := h
  exact ⟨h.1.1, CI_room h hv hb⟩
theorem CG_b {n b : Int32} {as : Nat → Int32} (h : CG n as b) : 0 ≤ n.toInt ∧ n.toInt ≤ 32 := by
  obtain ⟨am, ma, h⟩ := h
  exact h.1
theorem CG_pt {n so no so' no' v : Int32} {as : Nat → Int32} {A B : Bool} (h : CG n as (so ||| no)) (hv : 0 ≤ v.toInt ∧ v.toInt ≤ 31) (hb : zbt (so ||| no) v.toInt.toNat = false) (hAB : A = !B) (h1 : BS so so' v.toInt.toNat A) (h2 : BS no no' v.toInt.toNat B) : CG (n + 1) (upd as n.toNatClampNeg v) (so' ||| no') := by
  obtain ⟨am, ma, h⟩ := h
  refine ⟨_, _, CI_congr (CI_ask h (by decide) hv hb (w := v) rfl (i := _) rfl) (fun q hq => ?_)⟩
  rw [bt_or hv hq, bt_or2, bt_or2, h1 q hq, h2 q hq]
  subst hAB
  cases B <;> cases zbt so q <;> cases zbt no q <;> cases decide (q = v.toInt.toNat) <;> rfl
theorem CG_0 : CG 0 (fun _ => 0) (0 ||| 0) := by
  refine ⟨fun _ => 0, fun _ => 0, by decide, rfl, fun k hk => rfl, fun k hk => ?_, fun v hv => ?_, fun j k hj hk e => ?_⟩
  · exact absurd hk (by rw [z32_0]; exact Nat.not_lt_zero k)
  · rw [bt_or2, bt_z]
    constructor
    · intro z; cases z
    · rintro ⟨k, hk, _⟩
      exact absurd hk (by rw [z32_0]; exact Nat.not_lt_zero k)
  · exact absurd hj (by rw [z32_0]; exact Nat.not_lt_zero j)
def FP (x1 : Int32) (pi pi2 : Nat → Int32) : Prop := ∀ j, (j < 32 * x1.toInt.toNat ∨ 32 * x1.toInt.toNat + 32 ≤ j) → pi2 j = pi j
theorem FP_rf {x1 : Int32} {pi : Nat → Int32} : FP x1 pi pi := fun _ _ => rfl
theorem FP_tr {x1 : Int32} {pi pi2 pi3 : Nat → Int32} (h : FP x1 pi pi2) (h2 : FP x1 pi2 pi3) : FP x1 pi pi3 := fun j hj => (h2 j hj).trans (h j hj)
theorem FP_up {x1 : Int32} {pi : Nat → Int32} {z : Int32} {i p : Nat} (hi : i = 32 * x1.toInt.toNat + p) (hp : p < 32) : FP x1 pi (upd pi i z) := fun j hj => by
  unfold upd
  rw [if_neg (by omega)]
set_option maxHeartbeats 4000000 in
set_option maxRecDepth 20000 in
theorem cb_hasFound {su_who : Int32} {su_against : Int32} {su_kind : Int32} {su_won : Int32} {su_day : Int32} {su_land : Int32} {su_undoneFrom : Int32} {su_askedCount : Int32} {su_askedBits : Int32} {su_first : Int32} {su_foundSo : Int32} {su_foundNot : Int32} {su_fought : Int32} {su_needed : Int32} {v r : Int32} {u : Unit} (hv : 0 ≤ v.toInt ∧ v.toInt ≤ 31) (h : f_X7_hasFound v su_who su_against su_kind su_won su_day su_land su_undoneFrom su_askedCount su_askedBits su_first su_foundSo su_foundNot su_fought su_needed = some (r, u)) : (zbt (su_foundSo ||| su_foundNot) v.toInt.toNat = true ∧ r = 1) ∨ (zbt (su_foundSo ||| su_foundNot) v.toInt.toNat = false ∧ r = 0) := by
  unfold f_X7_hasFound B_X7_hasFound_0 at h
  by_cases c : (((su_foundSo ||| su_foundNot) >>> (v &&& 31)) &&& 1) = 0
  · replace h := (congrArg Prod.fst (Option.some.inj (zk_t c h))).symm
    exact Or.inr ⟨(bt_0 hv).mp c, h⟩
  · replace h := (congrArg Prod.fst (Option.some.inj (zk_f c h))).symm
    have c2 : ¬ zbt (su_foundSo ||| su_foundNot) v.toInt.toNat = false := fun z => c ((bt_0 hv).mpr z)
    exact Or.inl ⟨by simpa using c2, h⟩
set_option maxHeartbeats 4000000 in
set_option maxRecDepth 20000 in
theorem s3_loop {mod_code : Int32} {court_shoeCount : Int32} {mod_claims : Int32} {ts : Int32} {f : Int32} {court_suitCount : Int32} {mod_doneMany : Int32} {mod_undoneMany : Int32} {mod_open : Int32} {mod_laid : Int32} {mod_isBoth : Int32} {mod_wished : Int32} {mod_bestMany : Int32} {mod_bestRow : Int32} {mod_ringDigits : Int32} {mod_traces : Int32} {tm : Nat → Int32} {mod_askedMany : Nat → Int32} {mod_asked : Nat → Int32} {mod_endKind : Nat → Int32} {mod_isWon : Nat → Int32} {mod_firstMany : Nat → Int32} {mod_suedBy : Nat → Int32} {mod_suedOn : Nat → Int32} {mod_suitDay : Nat → Int32} {mod_suitLand : Nat → Int32} {tb : Nat → Int32} {su_who : Int32} {su_against : Int32} {su_kind : Int32} {su_won : Int32} {su_day : Int32} {su_land : Int32} {su_undoneFrom : Int32} {su_askedCount : Int32} {su_askedBits : Int32} {su_first : Int32} {sp : Value} {x1 : Int32} (hT : TS ts) (hR : TR ts tb tm) (hf : f.toInt < 0) (hx : 0 ≤ x1.toInt ∧ x1.toInt ≤ 44) : ∀ (N M : Nat) (at_ na i su_foundSo su_foundNot su_fought su_needed : Int32) (as mod_pointIs : Nat → Int32) (RC : Int32 × Int32 × Int32 × Int32 × Int32 × Int32 × Int32) (R : Int32 × Int32 × (Nat → Int32) × (Nat → Int32) × (Nat → Int32) × (Nat → Int32) × (Nat → Int32) × (Nat → Int32) × (Nat → Int32) × (Nat → Int32) × (Nat → Int32) × (Nat → Int32)), PB ts at_ → CG i as (su_foundSo ||| su_foundNot) → PI x1 su_foundSo su_foundNot su_fought su_needed mod_pointIs → G_X8_readPoints ts tb sp su_who su_against su_kind su_won su_day su_land su_undoneFrom su_askedCount su_askedBits su_first N i at_ na f su_foundSo su_foundNot su_fought su_needed = some RC → G_X12_readSuit mod_code court_shoeCount mod_claims ts court_suitCount mod_doneMany mod_undoneMany mod_open mod_laid mod_isBoth mod_wished mod_bestMany mod_bestRow mod_ringDigits mod_traces tm M x1 at_ f mod_suedBy mod_suedOn mod_endKind mod_isWon mod_suitDay mod_suitLand mod_askedMany mod_firstMany mod_asked mod_pointIs = some R → (0 ≤ RC.2.2.1.toInt ∧ R.2.1 = RC.2.2.1 ∧ RFR x1.toInt.toNat (mod_suedBy, mod_suedOn, mod_endKind, mod_isWon, mod_suitDay, mod_suitLand, mod_askedMany, mod_firstMany, mod_asked, mod_pointIs) R.2.2) ∨ (RC.2.2.1 = f ∧ PB ts RC.1 ∧ ∃ pi2, PI x1 RC.2.2.2.1 RC.2.2.2.2.1 RC.2.2.2.2.2.1 RC.2.2.2.2.2.2 pi2 ∧ FP x1 mod_pointIs pi2 ∧ ∃ g, B_X12_readSuit_107 g mod_code court_shoeCount mod_claims ts court_suitCount mod_doneMany mod_undoneMany mod_open mod_laid mod_isBoth mod_wished mod_bestMany mod_bestRow mod_ringDigits mod_traces tm x1 RC.1 f mod_suedBy mod_suedOn mod_endKind mod_isWon mod_suitDay mod_suitLand mod_askedMany mod_firstMany mod_asked pi2 = some R) := by
  intro N
  induction N with
  | zero => intro M at_ na i su_foundSo su_foundNot su_fought su_needed as mod_pointIs RC R hp hG hI h k; cases h
  | succ N ih =>
    intro M at_ na i su_foundSo su_foundNot su_fought su_needed as mod_pointIs RC R hp hG hI h k
    cases M with
    | zero => cases k
    | succ M =>
      have hG1 := CG_b hG
      have hpa := hp.1
      replace h : B_X8_readPoints_2 (G_X8_readPoints ts tb sp su_who su_against su_kind su_won su_day su_land su_undoneFrom su_askedCount su_askedBits su_first N) ts tb sp su_who su_against su_kind su_won su_day su_land su_undoneFrom su_askedCount su_askedBits su_first i at_ na f su_foundSo su_foundNot su_fought su_needed = some RC := h
      replace k : B_X12_readSuit_83 (G_X12_readSuit mod_code court_shoeCount mod_claims ts court_suitCount mod_doneMany mod_undoneMany mod_open mod_laid mod_isBoth mod_wished mod_bestMany mod_bestRow mod_ringDigits mod_traces tm M) mod_code court_shoeCount mod_claims ts court_suitCount mod_doneMany mod_undoneMany mod_open mod_laid mod_isBoth mod_wished mod_bestMany mod_bestRow mod_ringDigits mod_traces tm x1 at_ f mod_suedBy mod_suedOn mod_endKind mod_isWon mod_suitDay mod_suitLand mod_askedMany mod_firstMany mod_asked mod_pointIs = some R := k
      unfold B_X8_readPoints_2 at h
      unfold B_X12_readSuit_83 at k
      replace h := zk_f (by rw [i32_lt, z32L_32]; omega) h
      replace h := zk_o2 h
      obtain ⟨cr_2, cu_3, ch1, h⟩ := h
      rcases cb_acceptN (n := 59) hT hf hp (by decide) ch1 with ⟨ck2, cq4, cq5, ck3⟩ | ⟨ck2, cq6, cq7⟩
      · replace cq4 := cq4.symm
        subst cq4
        replace cq5 := cq5.symm
        subst cq5
        have ck3a := ck3.1
        replace h := zk_f (by decide) h
        replace h := zk_o4 h
        obtain ⟨cr_6, cu_7, cu_8, cu_9, ch8, h⟩ := h
        rcases cb_numberN2 hT hf ck3 ch8 with ⟨ck9, cq11, cq12, cq13, cq14, ck10⟩ | ⟨ck9, cq15, cq16, cq17, cq18⟩
        · replace cq11 := cq11.symm
          subst cq11
          replace cq12 := cq12.symm
          subst cq12
          replace cq13 := cq13.symm
          subst cq13
          replace cq14 := cq14.symm
          subst cq14
          have ck10a := ck10.1
          have ck10b := nmv_b2 (ts := ts) (tb := tb) (at_ + 1)
          by_cases cc19 : (32 : Int32) ≤ (nmv ts tb 2 (at_ + 1))
          · replace h := zk_t cc19 h
            have cc19n := cc19
            (try simp only [i32_lt, i32_le, i32_e, z32_0, z32_1, z32L_2, z32L_32] at cc19n)
            unfold B_X8_readPoints_42 at h
            unfold B_X8_readPoints_43 at h
            replace h := zk_o1 h
            obtain ⟨cu_16, ch20, h⟩ := h
            obtain cq21 := cb_judge0N hf ch20
            replace cq21 := cq21.symm
            subst cq21
            replace h := zk_lt h
            obtain ⟨cv_18, ce22, h⟩ := h
            subst ce22
            replace h := zk_o2 h
            obtain ⟨cr_19, cu_20, ch23, h⟩ := h
            obtain ⟨cq24, cq25⟩ := cb_acceptP (ck3).1 ch23
            replace cq24 := cq24.symm
            subst cq24
            replace cq25 := cq25.symm
            subst cq25
            replace h := zk_t (by decide) h
            replace h := zk_o2 h
            obtain ⟨cu_23, cu_24, ch26, h⟩ := h
            obtain ⟨cq27, cq28⟩ := cb_expectP (ck3).1 ch26
            replace cq27 := cq27.symm
            subst cq27
            replace cq28 := cq28.symm
            subst cq28
            replace h := zk_lt h
            obtain ⟨cv_26, ce29, h⟩ := h
            subst ce29
            unfold B_X8_readPoints_95 at h
            replace h := zk_o2 h
            obtain ⟨cr_28, cu_29, ch30, h⟩ := h
            obtain ⟨cq31, cq32⟩ := cb_acceptP (ck3).1 ch30
            replace cq31 := cq31.symm
            subst cq31
            replace cq32 := cq32.symm
            subst cq32
            replace h := zk_t (by decide) h
            unfold B_X8_readPoints_115 at h
            replace h := zk_lt h
            obtain ⟨cv_32, ce33, h⟩ := h
            subst ce33
            replace h := zk_o2 h
            obtain ⟨cr_33, cu_34, ch34, h⟩ := h
            obtain ⟨cq35, cq36⟩ := cb_acceptP (ck3).1 ch34
            replace cq35 := cq35.symm
            subst cq35
            replace cq36 := cq36.symm
            subst cq36
            replace h := zk_t (by decide) h
            unfold B_X8_readPoints_139 at h
            replace h := zk_lt h
            obtain ⟨cv_37, ce37, h⟩ := h
            subst ce37
            replace h := zk_lt h
            obtain ⟨cv_38, ce38, h⟩ := h
            subst ce38
            replace k := zk_f (by rw [i32_le, z32_0]; omega) k
            replace k := zk_o2 k
            obtain ⟨mr_35, mu_36, mh1, k⟩ := k
            rcases mb_isNext (n := 59) hT hR hp (by decide) mh1 with ⟨mk2, mq4, mq5, mk3⟩ | ⟨mk2, _, _⟩
            · replace mq4 := mq4.symm
              subst mq4
              replace mq5 := mq5.symm
              subst mq5
              have mk3a := mk3.1
              replace k := zk_f (by decide) k
              replace k := zk_o3 k
              obtain ⟨mu_39, mu_40, mu_41, mh6, k⟩ := k
              unfold f_X12_readPoint at mh6
              unfold B_X12_readPoint_0 at mh6
              obtain ⟨mr_1, mu_2, mu_3, mh7, mh6⟩ := zk_o3 mh6
              rcases mb_number2 (m := 32) hT hR hf mk3 (by decide) mh7 with ⟨mk8, mk9, _, _, _, mk10⟩ | ⟨mk8, mk9, mq11, mq12, mq13, mk10⟩ | ⟨mk8, _, _, _⟩
              · exfalso; omega
              · replace mq11 := mq11.symm
                subst mq11
                replace mq12 := mq12.symm
                subst mq12
                replace mq13 := mq13.symm
                subst mq13
                have mk10a := mk10.1
                have mk10b := nmv_b2 (ts := ts) (tb := tb) (at_ + 1)
                have mh6 := zk_f (by rw [i32_lt, z32_0]; omega) mh6
                simp only [Option.some.injEq, Prod.mk.injEq] at mh6
                obtain ⟨rfl, rfl, rfl⟩ := mh6
                first
                | (exfalso; omega)
                | (obtain ⟨e7, e7b⟩ := fm_83 (mk3).1 k
                   have e8 := fq_ptsG (mk3).1 h
                   exact Or.inl ⟨by rw [e8]; exact (mk3).1, by rw [e8]; exact e7, by rw [e7b]; exact RFR_rf⟩)
              · exact (zx_2 ck9 mk8).elim
            · exact (mk2 ck2).elim
          · replace h := zk_f cc19 h
            have cc19n := cc19
            (try simp only [i32_lt, i32_le, i32_e, z32_0, z32_1, z32L_2, z32L_32] at cc19n)
            replace h := zk_o2 h
            obtain ⟨cr_12, cu_13, ch39, h⟩ := h
            rcases cb_hasFound (by first | omega | decide) ch39 with ⟨ck40, cq41⟩ | ⟨ck40, cq42⟩
            · replace cq41 := cq41.symm
              subst cq41
              replace h := zk_f (by decide) h
              unfold B_X8_readPoints_42 at h
              unfold B_X8_readPoints_43 at h
              replace h := zk_o1 h
              obtain ⟨cu_16, ch43, h⟩ := h
              obtain cq44 := cb_judge0N hf ch43
              replace cq44 := cq44.symm
              subst cq44
              replace h := zk_lt h
              obtain ⟨cv_18, ce45, h⟩ := h
              subst ce45
              replace h := zk_o2 h
              obtain ⟨cr_19, cu_20, ch46, h⟩ := h
              obtain ⟨cq47, cq48⟩ := cb_acceptP (ck3).1 ch46
              replace cq47 := cq47.symm
              subst cq47
              replace cq48 := cq48.symm
              subst cq48
              replace h := zk_t (by decide) h
              replace h := zk_o2 h
              obtain ⟨cu_23, cu_24, ch49, h⟩ := h
              obtain ⟨cq50, cq51⟩ := cb_expectP (ck3).1 ch49
              replace cq50 := cq50.symm
              subst cq50
              replace cq51 := cq51.symm
              subst cq51
              replace h := zk_lt h
              obtain ⟨cv_26, ce52, h⟩ := h
              subst ce52
              unfold B_X8_readPoints_95 at h
              replace h := zk_o2 h
              obtain ⟨cr_28, cu_29, ch53, h⟩ := h
              obtain ⟨cq54, cq55⟩ := cb_acceptP (ck3).1 ch53
              replace cq54 := cq54.symm
              subst cq54
              replace cq55 := cq55.symm
              subst cq55
              replace h := zk_t (by decide) h
              unfold B_X8_readPoints_115 at h
              replace h := zk_lt h
              obtain ⟨cv_32, ce56, h⟩ := h
              subst ce56
              replace h := zk_o2 h
              obtain ⟨cr_33, cu_34, ch57, h⟩ := h
              obtain ⟨cq58, cq59⟩ := cb_acceptP (ck3).1 ch57
              replace cq58 := cq58.symm
              subst cq58
              replace cq59 := cq59.symm
              subst cq59
              replace h := zk_t (by decide) h
              unfold B_X8_readPoints_139 at h
              replace h := zk_lt h
              obtain ⟨cv_37, ce60, h⟩ := h
              subst ce60
              replace h := zk_lt h
              obtain ⟨cv_38, ce61, h⟩ := h
              subst ce61
              replace k := zk_f (by rw [i32_le, z32_0]; omega) k
              replace k := zk_o2 k
              obtain ⟨mr_35, mu_36, mh14, k⟩ := k
              rcases mb_isNext (n := 59) hT hR hp (by decide) mh14 with ⟨mk15, mq17, mq18, mk16⟩ | ⟨mk15, _, _⟩
              · replace mq17 := mq17.symm
                subst mq17
                replace mq18 := mq18.symm
                subst mq18
                have mk16a := mk16.1
                replace k := zk_f (by decide) k
                replace k := zk_o3 k
                obtain ⟨mu_39, mu_40, mu_41, mh19, k⟩ := k
                unfold f_X12_readPoint at mh19
                unfold B_X12_readPoint_0 at mh19
                obtain ⟨mr_1, mu_2, mu_3, mh20, mh19⟩ := zk_o3 mh19
                rcases mb_number2 (m := 32) hT hR hf mk16 (by decide) mh20 with ⟨mk21, mk22, mq24, mq25, mq26, mk23⟩ | ⟨mk21, mk22, _, _, _, mk23⟩ | ⟨mk21, _, _, _⟩
                · replace mq24 := mq24.symm
                  subst mq24
                  replace mq25 := mq25.symm
                  subst mq25
                  replace mq26 := mq26.symm
                  subst mq26
                  have mk23a := mk23.1
                  have mk23b := nmv_b2 (ts := ts) (tb := tb) (at_ + 1)
                  have mh19 := zk_t (by rw [i32_lt, z32_0]; omega) mh19
                  obtain ⟨_, mh19⟩ := zk_gd mh19
                  have mh19 := zk_f (PI_nle hI hx (by omega) ck40) mh19
                  obtain ⟨mu_18, mh27, mh19⟩ := zk_o1 mh19
                  obtain mq28 := mb_wrongAtN hf mh27
                  replace mq28 := mq28.symm
                  subst mq28
                  simp only [Option.some.injEq, Prod.mk.injEq] at mh19
                  obtain ⟨rfl, rfl, rfl⟩ := mh19
                  first
                  | (exfalso; omega)
                  | (obtain ⟨e7, e7b⟩ := fm_83 (mk16).1 k
                     have e8 := fq_ptsG (mk16).1 h
                     exact Or.inl ⟨by rw [e8]; exact (mk16).1, by rw [e8]; exact e7, by rw [e7b]; exact RFR_rf⟩)
                · exfalso; omega
                · exact (zx_2 ck9 mk21).elim
              · exact (mk15 ck2).elim
            · replace cq42 := cq42.symm
              subst cq42
              replace h := zk_t (by decide) h
              unfold B_X8_readPoints_43 at h
              replace h := zk_o1 h
              obtain ⟨cu_16, ch62, h⟩ := h
              obtain cq63 := cb_judge1 ch62
              replace cq63 := cq63.symm
              subst cq63
              replace h := zk_lt h
              obtain ⟨cv_18, ce64, h⟩ := h
              subst ce64
              replace h := zk_o2 h
              obtain ⟨cr_19, cu_20, ch65, h⟩ := h
              rcases cb_acceptN (n := 43) hT hf ck10 (by decide) ch65 with ⟨ck66, cq68, cq69, ck67⟩ | ⟨ck66, cq70, cq71⟩
              · replace cq68 := cq68.symm
                subst cq68
                replace cq69 := cq69.symm
                subst cq69
                have ck67a := ck67.1
                replace h := zk_f (by decide) h
                replace h := zk_lt h
                obtain ⟨cv_27, ce72, h⟩ := h
                subst ce72
                unfold B_X8_readPoints_95 at h
                replace h := zk_o2 h
                obtain ⟨cr_28, cu_29, ch73, h⟩ := h
                rcases cb_acceptN (n := 102) hT hf ck67 (by decide) ch73 with ⟨ck74, cq76, cq77, ck75⟩ | ⟨ck74, cq78, cq79⟩
                · replace cq76 := cq76.symm
                  subst cq76
                  replace cq77 := cq77.symm
                  subst cq77
                  have ck75a := ck75.1
                  replace h := zk_f (by decide) h
                  unfold B_X8_readPoints_115 at h
                  replace h := zk_lt h
                  obtain ⟨cv_32, ce80, h⟩ := h
                  subst ce80
                  replace h := zk_o2 h
                  obtain ⟨cr_33, cu_34, ch81, h⟩ := h
                  rcases cb_acceptN (n := 110) hT hf ck75 (by decide) ch81 with ⟨ck82, cq84, cq85, ck83⟩ | ⟨ck82, cq86, cq87⟩
                  · replace cq84 := cq84.symm
                    subst cq84
                    replace cq85 := cq85.symm
                    subst cq85
                    have ck83a := ck83.1
                    replace h := zk_f (by decide) h
                    unfold B_X8_readPoints_139 at h
                    replace h := zk_lt h
                    obtain ⟨cv_37, ce88, h⟩ := h
                    subst ce88
                    replace h := zk_lt h
                    obtain ⟨cv_38, ce89, h⟩ := h
                    subst ce89
                    have hroom := CG_room hG (by first | omega | decide) ck40
                    replace k := zk_f (by rw [i32_le, z32_0]; omega) k
                    replace k := zk_o2 k
                    obtain ⟨mr_35, mu_36, mh29, k⟩ := k
                    rcases mb_isNext (n := 59) hT hR hp (by decide) mh29 with ⟨mk30, mq32, mq33, mk31⟩ | ⟨mk30, _, _⟩
                    · replace mq32 := mq32.symm
                      subst mq32
                      replace mq33 := mq33.symm
                      subst mq33
                      have mk31a := mk31.1
                      replace k := zk_f (by decide) k
                      replace k := zk_o3 k
                      obtain ⟨mu_39, mu_40, mu_41, mh34, k⟩ := k
                      unfold f_X12_readPoint at mh34
                      unfold B_X12_readPoint_0 at mh34
                      obtain ⟨mr_1, mu_2, mu_3, mh35, mh34⟩ := zk_o3 mh34
                      rcases mb_number2 (m := 32) hT hR hf mk31 (by decide) mh35 with ⟨mk36, mk37, mq39, mq40, mq41, mk38⟩ | ⟨mk36, mk37, _, _, _, mk38⟩ | ⟨mk36, _, _, _⟩
                      · replace mq39 := mq39.symm
                        subst mq39
                        replace mq40 := mq40.symm
                        subst mq40
                        replace mq41 := mq41.symm
                        subst mq41
                        have mk38a := mk38.1
                        have mk38b := nmv_b2 (ts := ts) (tb := tb) (at_ + 1)
                        have mh34 := zk_t (by rw [i32_lt, z32_0]; omega) mh34
                        obtain ⟨_, mh34⟩ := zk_gd mh34
                        have mh34 := zk_t (PI_le hI hx (by omega) ck40) mh34
                        obtain ⟨mr_8, mu_9, mh42, mh34⟩ := zk_o2 mh34
                        obtain mk43 := mb_look hT hR mk38 mh42
                        have mh34 := zk_t ((BR_E (n := 43) mk43 (by decide)).mpr (by omega)) mh34
                        unfold B_X12_readPoint_64 at mh34
                        obtain ⟨mr_20, mu_21, mh44, mh34⟩ := zk_o2 mh34
                        obtain mk45 := mb_look hT hR mk38 mh44
                        have mh34 := zk_t ((BR_E (n := 43) mk45 (by decide)).mpr (by omega)) mh34
                        unfold B_X12_readPoint_78 at mh34
                        obtain ⟨mv_24, me46, mh34⟩ := zk_lt mh34
                        subst me46
                        obtain ⟨mr_25, mu_26, mh47, mh34⟩ := zk_o2 mh34
                        rcases mb_isNext (n := 102) hT hR ck67 (by decide) mh47 with ⟨mk48, mq50, mq51, mk49⟩ | ⟨mk48, _, _⟩
                        · replace mq50 := mq50.symm
                          subst mq50
                          replace mq51 := mq51.symm
                          subst mq51
                          have mk49a := mk49.1
                          have mh34 := zk_f (by decide) mh34
                          obtain ⟨mv_29, me52, mh34⟩ := zk_lt mh34
                          subst me52
                          unfold B_X12_readPoint_102 at mh34
                          obtain ⟨mr_30, mu_31, mh53, mh34⟩ := zk_o2 mh34
                          rcases mb_isNext (n := 110) hT hR mk49 (by decide) mh53 with ⟨mk54, mq56, mq57, mk55⟩ | ⟨mk54, _, _⟩
                          · replace mq56 := mq56.symm
                            subst mq56
                            replace mq57 := mq57.symm
                            subst mq57
                            have mk55a := mk55.1
                            have mh34 := zk_f (by decide) mh34
                            obtain ⟨mv_34, me58, mh34⟩ := zk_lt mh34
                            subst me58
                            unfold B_X12_readPoint_114 at mh34
                            obtain ⟨mv_35, me59, mh34⟩ := zk_lt mh34
                            subst me59
                            obtain ⟨_, mh34⟩ := zk_gd mh34
                            obtain ⟨mf_37, me60, mh34⟩ := zk_lt mh34
                            simp only [Option.some.injEq, Prod.mk.injEq] at mh34
                            obtain ⟨rfl, rfl, rfl⟩ := mh34
                            subst me60
                            have hv : 0 ≤ (nmv ts tb 2 (at_ + 1)).toInt ∧ (nmv ts tb 2 (at_ + 1)).toInt ≤ 31 := by omega
                            rcases ih M _ _ _ _ _ _ _ _ _ RC R ck83 (CG_pt (A := true) (B := false) hG hv ck40 rfl (BS_t hv) (BS_u)) (PI_add (A := true) (B := false) (F := true) (N := true) hI (by omega) ck40 rfl (BS_t hv) (BS_u) (BS_t hv) (BS_t hv) (by decide) (ix32 hx (by omega))) h k with q | ⟨q1, q2, pi2, q3, q4, q5⟩
                            · exact Or.inl ⟨q.1, q.2.1, RFR_rt q.2.2 ⟨fun _ _ => rfl, fun _ _ => rfl, fun _ _ => rfl, fun _ _ => rfl, fun _ _ => rfl, fun _ _ => rfl, fun _ _ => rfl, fun _ _ => rfl, fun _ _ => rfl, (FP_up (ix32 hx (by omega)) (by omega))⟩⟩
                            · exact Or.inr ⟨q1, q2, pi2, q3, FP_tr (FP_up (ix32 hx (by omega)) (by omega)) q4, q5⟩
                          · exact (mk54 ck82).elim
                        · exact (mk48 ck74).elim
                      · exfalso; omega
                      · exact (zx_2 ck9 mk36).elim
                    · exact (mk30 ck2).elim
                  · replace cq86 := cq86.symm
                    subst cq86
                    replace cq87 := cq87.symm
                    subst cq87
                    replace h := zk_t (by decide) h
                    unfold B_X8_readPoints_139 at h
                    replace h := zk_lt h
                    obtain ⟨cv_37, ce90, h⟩ := h
                    subst ce90
                    replace h := zk_lt h
                    obtain ⟨cv_38, ce91, h⟩ := h
                    subst ce91
                    have hroom := CG_room hG (by first | omega | decide) ck40
                    replace k := zk_f (by rw [i32_le, z32_0]; omega) k
                    replace k := zk_o2 k
                    obtain ⟨mr_35, mu_36, mh61, k⟩ := k
                    rcases mb_isNext (n := 59) hT hR hp (by decide) mh61 with ⟨mk62, mq64, mq65, mk63⟩ | ⟨mk62, _, _⟩
                    · replace mq64 := mq64.symm
                      subst mq64
                      replace mq65 := mq65.symm
                      subst mq65
                      have mk63a := mk63.1
                      replace k := zk_f (by decide) k
                      replace k := zk_o3 k
                      obtain ⟨mu_39, mu_40, mu_41, mh66, k⟩ := k
                      unfold f_X12_readPoint at mh66
                      unfold B_X12_readPoint_0 at mh66
                      obtain ⟨mr_1, mu_2, mu_3, mh67, mh66⟩ := zk_o3 mh66
                      rcases mb_number2 (m := 32) hT hR hf mk63 (by decide) mh67 with ⟨mk68, mk69, mq71, mq72, mq73, mk70⟩ | ⟨mk68, mk69, _, _, _, mk70⟩ | ⟨mk68, _, _, _⟩
                      · replace mq71 := mq71.symm
                        subst mq71
                        replace mq72 := mq72.symm
                        subst mq72
                        replace mq73 := mq73.symm
                        subst mq73
                        have mk70a := mk70.1
                        have mk70b := nmv_b2 (ts := ts) (tb := tb) (at_ + 1)
                        have mh66 := zk_t (by rw [i32_lt, z32_0]; omega) mh66
                        obtain ⟨_, mh66⟩ := zk_gd mh66
                        have mh66 := zk_t (PI_le hI hx (by omega) ck40) mh66
                        obtain ⟨mr_8, mu_9, mh74, mh66⟩ := zk_o2 mh66
                        obtain mk75 := mb_look hT hR mk70 mh74
                        have mh66 := zk_t ((BR_E (n := 43) mk75 (by decide)).mpr (by omega)) mh66
                        unfold B_X12_readPoint_64 at mh66
                        obtain ⟨mr_20, mu_21, mh76, mh66⟩ := zk_o2 mh66
                        obtain mk77 := mb_look hT hR mk70 mh76
                        have mh66 := zk_t ((BR_E (n := 43) mk77 (by decide)).mpr (by omega)) mh66
                        unfold B_X12_readPoint_78 at mh66
                        obtain ⟨mv_24, me78, mh66⟩ := zk_lt mh66
                        subst me78
                        obtain ⟨mr_25, mu_26, mh79, mh66⟩ := zk_o2 mh66
                        rcases mb_isNext (n := 102) hT hR ck67 (by decide) mh79 with ⟨mk80, mq82, mq83, mk81⟩ | ⟨mk80, _, _⟩
                        · replace mq82 := mq82.symm
                          subst mq82
                          replace mq83 := mq83.symm
                          subst mq83
                          have mk81a := mk81.1
                          have mh66 := zk_f (by decide) mh66
                          obtain ⟨mv_29, me84, mh66⟩ := zk_lt mh66
                          subst me84
                          unfold B_X12_readPoint_102 at mh66
                          obtain ⟨mr_30, mu_31, mh85, mh66⟩ := zk_o2 mh66
                          rcases mb_isNext (n := 110) hT hR mk81 (by decide) mh85 with ⟨mk86, _, _, mk87⟩ | ⟨mk86, mq88, mq89⟩
                          · exact (ck82 mk86).elim
                          · replace mq88 := mq88.symm
                            subst mq88
                            replace mq89 := mq89.symm
                            subst mq89
                            have mh66 := zk_t (by decide) mh66
                            unfold B_X12_readPoint_114 at mh66
                            obtain ⟨mv_35, me90, mh66⟩ := zk_lt mh66
                            subst me90
                            obtain ⟨_, mh66⟩ := zk_gd mh66
                            obtain ⟨mf_37, me91, mh66⟩ := zk_lt mh66
                            simp only [Option.some.injEq, Prod.mk.injEq] at mh66
                            obtain ⟨rfl, rfl, rfl⟩ := mh66
                            subst me91
                            have hv : 0 ≤ (nmv ts tb 2 (at_ + 1)).toInt ∧ (nmv ts tb 2 (at_ + 1)).toInt ≤ 31 := by omega
                            rcases ih M _ _ _ _ _ _ _ _ _ RC R ck75 (CG_pt (A := true) (B := false) hG hv ck40 rfl (BS_t hv) (BS_u)) (PI_add (A := true) (B := false) (F := true) (N := false) hI (by omega) ck40 rfl (BS_t hv) (BS_u) (BS_t hv) (BS_0) (by decide) (ix32 hx (by omega))) h k with q | ⟨q1, q2, pi2, q3, q4, q5⟩
                            · exact Or.inl ⟨q.1, q.2.1, RFR_rt q.2.2 ⟨fun _ _ => rfl, fun _ _ => rfl, fun _ _ => rfl, fun _ _ => rfl, fun _ _ => rfl, fun _ _ => rfl, fun _ _ => rfl, fun _ _ => rfl, fun _ _ => rfl, (FP_up (ix32 hx (by omega)) (by omega))⟩⟩
                            · exact Or.inr ⟨q1, q2, pi2, q3, FP_tr (FP_up (ix32 hx (by omega)) (by omega)) q4, q5⟩
                        · exact (mk80 ck74).elim
                      · exfalso; omega
                      · exact (zx_2 ck9 mk68).elim
                    · exact (mk62 ck2).elim
                · replace cq78 := cq78.symm
                  subst cq78
                  replace cq79 := cq79.symm
                  subst cq79
                  replace h := zk_t (by decide) h
                  unfold B_X8_readPoints_115 at h
                  replace h := zk_lt h
                  obtain ⟨cv_32, ce92, h⟩ := h
                  subst ce92
                  replace h := zk_o2 h
                  obtain ⟨cr_33, cu_34, ch93, h⟩ := h
                  rcases cb_acceptN (n := 110) hT hf ck67 (by decide) ch93 with ⟨ck94, cq96, cq97, ck95⟩ | ⟨ck94, cq98, cq99⟩
                  · replace cq96 := cq96.symm
                    subst cq96
                    replace cq97 := cq97.symm
                    subst cq97
                    have ck95a := ck95.1
                    replace h := zk_f (by decide) h
                    unfold B_X8_readPoints_139 at h
                    replace h := zk_lt h
                    obtain ⟨cv_37, ce100, h⟩ := h
                    subst ce100
                    replace h := zk_lt h
                    obtain ⟨cv_38, ce101, h⟩ := h
                    subst ce101
                    have hroom := CG_room hG (by first | omega | decide) ck40
                    replace k := zk_f (by rw [i32_le, z32_0]; omega) k
                    replace k := zk_o2 k
                    obtain ⟨mr_35, mu_36, mh92, k⟩ := k
                    rcases mb_isNext (n := 59) hT hR hp (by decide) mh92 with ⟨mk93, mq95, mq96, mk94⟩ | ⟨mk93, _, _⟩
                    · replace mq95 := mq95.symm
                      subst mq95
                      replace mq96 := mq96.symm
                      subst mq96
                      have mk94a := mk94.1
                      replace k := zk_f (by decide) k
                      replace k := zk_o3 k
                      obtain ⟨mu_39, mu_40, mu_41, mh97, k⟩ := k
                      unfold f_X12_readPoint at mh97
                      unfold B_X12_readPoint_0 at mh97
                      obtain ⟨mr_1, mu_2, mu_3, mh98, mh97⟩ := zk_o3 mh97
                      rcases mb_number2 (m := 32) hT hR hf mk94 (by decide) mh98 with ⟨mk99, mk100, mq102, mq103, mq104, mk101⟩ | ⟨mk99, mk100, _, _, _, mk101⟩ | ⟨mk99, _, _, _⟩
                      · replace mq102 := mq102.symm
                        subst mq102
                        replace mq103 := mq103.symm
                        subst mq103
                        replace mq104 := mq104.symm
                        subst mq104
                        have mk101a := mk101.1
                        have mk101b := nmv_b2 (ts := ts) (tb := tb) (at_ + 1)
                        have mh97 := zk_t (by rw [i32_lt, z32_0]; omega) mh97
                        obtain ⟨_, mh97⟩ := zk_gd mh97
                        have mh97 := zk_t (PI_le hI hx (by omega) ck40) mh97
                        obtain ⟨mr_8, mu_9, mh105, mh97⟩ := zk_o2 mh97
                        obtain mk106 := mb_look hT hR mk101 mh105
                        have mh97 := zk_t ((BR_E (n := 43) mk106 (by decide)).mpr (by omega)) mh97
                        unfold B_X12_readPoint_64 at mh97
                        obtain ⟨mr_20, mu_21, mh107, mh97⟩ := zk_o2 mh97
                        obtain mk108 := mb_look hT hR mk101 mh107
                        have mh97 := zk_t ((BR_E (n := 43) mk108 (by decide)).mpr (by omega)) mh97
                        unfold B_X12_readPoint_78 at mh97
                        obtain ⟨mv_24, me109, mh97⟩ := zk_lt mh97
                        subst me109
                        obtain ⟨mr_25, mu_26, mh110, mh97⟩ := zk_o2 mh97
                        rcases mb_isNext (n := 102) hT hR ck67 (by decide) mh110 with ⟨mk111, _, _, mk112⟩ | ⟨mk111, mq113, mq114⟩
                        · exact (ck74 mk111).elim
                        · replace mq113 := mq113.symm
                          subst mq113
                          replace mq114 := mq114.symm
                          subst mq114
                          have mh97 := zk_t (by decide) mh97
                          unfold B_X12_readPoint_102 at mh97
                          obtain ⟨mr_30, mu_31, mh115, mh97⟩ := zk_o2 mh97
                          rcases mb_isNext (n := 110) hT hR ck67 (by decide) mh115 with ⟨mk116, mq118, mq119, mk117⟩ | ⟨mk116, _, _⟩
                          · replace mq118 := mq118.symm
                            subst mq118
                            replace mq119 := mq119.symm
                            subst mq119
                            have mk117a := mk117.1
                            have mh97 := zk_f (by decide) mh97
                            obtain ⟨mv_34, me120, mh97⟩ := zk_lt mh97
                            subst me120
                            unfold B_X12_readPoint_114 at mh97
                            obtain ⟨mv_35, me121, mh97⟩ := zk_lt mh97
                            subst me121
                            obtain ⟨_, mh97⟩ := zk_gd mh97
                            obtain ⟨mf_37, me122, mh97⟩ := zk_lt mh97
                            simp only [Option.some.injEq, Prod.mk.injEq] at mh97
                            obtain ⟨rfl, rfl, rfl⟩ := mh97
                            subst me122
                            have hv : 0 ≤ (nmv ts tb 2 (at_ + 1)).toInt ∧ (nmv ts tb 2 (at_ + 1)).toInt ≤ 31 := by omega
                            rcases ih M _ _ _ _ _ _ _ _ _ RC R ck95 (CG_pt (A := true) (B := false) hG hv ck40 rfl (BS_t hv) (BS_u)) (PI_add (A := true) (B := false) (F := false) (N := true) hI (by omega) ck40 rfl (BS_t hv) (BS_u) (BS_0) (BS_t hv) (by decide) (ix32 hx (by omega))) h k with q | ⟨q1, q2, pi2, q3, q4, q5⟩
                            · exact Or.inl ⟨q.1, q.2.1, RFR_rt q.2.2 ⟨fun _ _ => rfl, fun _ _ => rfl, fun _ _ => rfl, fun _ _ => rfl, fun _ _ => rfl, fun _ _ => rfl, fun _ _ => rfl, fun _ _ => rfl, fun _ _ => rfl, (FP_up (ix32 hx (by omega)) (by omega))⟩⟩
                            · exact Or.inr ⟨q1, q2, pi2, q3, FP_tr (FP_up (ix32 hx (by omega)) (by omega)) q4, q5⟩
                          · exact (mk116 ck94).elim
                      · exfalso; omega
                      · exact (zx_2 ck9 mk99).elim
                    · exact (mk93 ck2).elim
                  · replace cq98 := cq98.symm
                    subst cq98
                    replace cq99 := cq99.symm
                    subst cq99
                    replace h := zk_t (by decide) h
                    unfold B_X8_readPoints_139 at h
                    replace h := zk_lt h
                    obtain ⟨cv_37, ce102, h⟩ := h
                    subst ce102
                    replace h := zk_lt h
                    obtain ⟨cv_38, ce103, h⟩ := h
                    subst ce103
                    have hroom := CG_room hG (by first | omega | decide) ck40
                    replace k := zk_f (by rw [i32_le, z32_0]; omega) k
                    replace k := zk_o2 k
                    obtain ⟨mr_35, mu_36, mh123, k⟩ := k
                    rcases mb_isNext (n := 59) hT hR hp (by decide) mh123 with ⟨mk124, mq126, mq127, mk125⟩ | ⟨mk124, _, _⟩
                    · replace mq126 := mq126.symm
                      subst mq126
                      replace mq127 := mq127.symm
                      subst mq127
                      have mk125a := mk125.1
                      replace k := zk_f (by decide) k
                      replace k := zk_o3 k
                      obtain ⟨mu_39, mu_40, mu_41, mh128, k⟩ := k
                      unfold f_X12_readPoint at mh128
                      unfold B_X12_readPoint_0 at mh128
                      obtain ⟨mr_1, mu_2, mu_3, mh129, mh128⟩ := zk_o3 mh128
                      rcases mb_number2 (m := 32) hT hR hf mk125 (by decide) mh129 with ⟨mk130, mk131, mq133, mq134, mq135, mk132⟩ | ⟨mk130, mk131, _, _, _, mk132⟩ | ⟨mk130, _, _, _⟩
                      · replace mq133 := mq133.symm
                        subst mq133
                        replace mq134 := mq134.symm
                        subst mq134
                        replace mq135 := mq135.symm
                        subst mq135
                        have mk132a := mk132.1
                        have mk132b := nmv_b2 (ts := ts) (tb := tb) (at_ + 1)
                        have mh128 := zk_t (by rw [i32_lt, z32_0]; omega) mh128
                        obtain ⟨_, mh128⟩ := zk_gd mh128
                        have mh128 := zk_t (PI_le hI hx (by omega) ck40) mh128
                        obtain ⟨mr_8, mu_9, mh136, mh128⟩ := zk_o2 mh128
                        obtain mk137 := mb_look hT hR mk132 mh136
                        have mh128 := zk_t ((BR_E (n := 43) mk137 (by decide)).mpr (by omega)) mh128
                        unfold B_X12_readPoint_64 at mh128
                        obtain ⟨mr_20, mu_21, mh138, mh128⟩ := zk_o2 mh128
                        obtain mk139 := mb_look hT hR mk132 mh138
                        have mh128 := zk_t ((BR_E (n := 43) mk139 (by decide)).mpr (by omega)) mh128
                        unfold B_X12_readPoint_78 at mh128
                        obtain ⟨mv_24, me140, mh128⟩ := zk_lt mh128
                        subst me140
                        obtain ⟨mr_25, mu_26, mh141, mh128⟩ := zk_o2 mh128
                        rcases mb_isNext (n := 102) hT hR ck67 (by decide) mh141 with ⟨mk142, _, _, mk143⟩ | ⟨mk142, mq144, mq145⟩
                        · exact (ck74 mk142).elim
                        · replace mq144 := mq144.symm
                          subst mq144
                          replace mq145 := mq145.symm
                          subst mq145
                          have mh128 := zk_t (by decide) mh128
                          unfold B_X12_readPoint_102 at mh128
                          obtain ⟨mr_30, mu_31, mh146, mh128⟩ := zk_o2 mh128
                          rcases mb_isNext (n := 110) hT hR ck67 (by decide) mh146 with ⟨mk147, _, _, mk148⟩ | ⟨mk147, mq149, mq150⟩
                          · exact (ck94 mk147).elim
                          · replace mq149 := mq149.symm
                            subst mq149
                            replace mq150 := mq150.symm
                            subst mq150
                            have mh128 := zk_t (by decide) mh128
                            unfold B_X12_readPoint_114 at mh128
                            obtain ⟨mv_35, me151, mh128⟩ := zk_lt mh128
                            subst me151
                            obtain ⟨_, mh128⟩ := zk_gd mh128
                            obtain ⟨mf_37, me152, mh128⟩ := zk_lt mh128
                            simp only [Option.some.injEq, Prod.mk.injEq] at mh128
                            obtain ⟨rfl, rfl, rfl⟩ := mh128
                            subst me152
                            have hv : 0 ≤ (nmv ts tb 2 (at_ + 1)).toInt ∧ (nmv ts tb 2 (at_ + 1)).toInt ≤ 31 := by omega
                            rcases ih M _ _ _ _ _ _ _ _ _ RC R ck67 (CG_pt (A := true) (B := false) hG hv ck40 rfl (BS_t hv) (BS_u)) (PI_add (A := true) (B := false) (F := false) (N := false) hI (by omega) ck40 rfl (BS_t hv) (BS_u) (BS_0) (BS_0) (by decide) (ix32 hx (by omega))) h k with q | ⟨q1, q2, pi2, q3, q4, q5⟩
                            · exact Or.inl ⟨q.1, q.2.1, RFR_rt q.2.2 ⟨fun _ _ => rfl, fun _ _ => rfl, fun _ _ => rfl, fun _ _ => rfl, fun _ _ => rfl, fun _ _ => rfl, fun _ _ => rfl, fun _ _ => rfl, fun _ _ => rfl, (FP_up (ix32 hx (by omega)) (by omega))⟩⟩
                            · exact Or.inr ⟨q1, q2, pi2, q3, FP_tr (FP_up (ix32 hx (by omega)) (by omega)) q4, q5⟩
                      · exfalso; omega
                      · exact (zx_2 ck9 mk130).elim
                    · exact (mk124 ck2).elim
              · replace cq70 := cq70.symm
                subst cq70
                replace cq71 := cq71.symm
                subst cq71
                replace h := zk_t (by decide) h
                replace h := zk_o2 h
                obtain ⟨cu_23, cu_24, ch104, h⟩ := h
                rcases cb_expectN (n := 45) hT hf ck10 (by decide) ch104 with ⟨ck105, cq107, cq108, ck106⟩ | ⟨ck105, cq109, cq110⟩
                · replace cq107 := cq107.symm
                  subst cq107
                  replace cq108 := cq108.symm
                  subst cq108
                  have ck106a := ck106.1
                  replace h := zk_lt h
                  obtain ⟨cv_26, ce111, h⟩ := h
                  subst ce111
                  unfold B_X8_readPoints_95 at h
                  replace h := zk_o2 h
                  obtain ⟨cr_28, cu_29, ch112, h⟩ := h
                  rcases cb_acceptN (n := 102) hT hf ck106 (by decide) ch112 with ⟨ck113, cq115, cq116, ck114⟩ | ⟨ck113, cq117, cq118⟩
                  · replace cq115 := cq115.symm
                    subst cq115
                    replace cq116 := cq116.symm
                    subst cq116
                    have ck114a := ck114.1
                    replace h := zk_f (by decide) h
                    unfold B_X8_readPoints_115 at h
                    replace h := zk_lt h
                    obtain ⟨cv_32, ce119, h⟩ := h
                    subst ce119
                    replace h := zk_o2 h
                    obtain ⟨cr_33, cu_34, ch120, h⟩ := h
                    rcases cb_acceptN (n := 110) hT hf ck114 (by decide) ch120 with ⟨ck121, cq123, cq124, ck122⟩ | ⟨ck121, cq125, cq126⟩
                    · replace cq123 := cq123.symm
                      subst cq123
                      replace cq124 := cq124.symm
                      subst cq124
                      have ck122a := ck122.1
                      replace h := zk_f (by decide) h
                      unfold B_X8_readPoints_139 at h
                      replace h := zk_lt h
                      obtain ⟨cv_37, ce127, h⟩ := h
                      subst ce127
                      replace h := zk_lt h
                      obtain ⟨cv_38, ce128, h⟩ := h
                      subst ce128
                      have hroom := CG_room hG (by first | omega | decide) ck40
                      replace k := zk_f (by rw [i32_le, z32_0]; omega) k
                      replace k := zk_o2 k
                      obtain ⟨mr_35, mu_36, mh153, k⟩ := k
                      rcases mb_isNext (n := 59) hT hR hp (by decide) mh153 with ⟨mk154, mq156, mq157, mk155⟩ | ⟨mk154, _, _⟩
                      · replace mq156 := mq156.symm
                        subst mq156
                        replace mq157 := mq157.symm
                        subst mq157
                        have mk155a := mk155.1
                        replace k := zk_f (by decide) k
                        replace k := zk_o3 k
                        obtain ⟨mu_39, mu_40, mu_41, mh158, k⟩ := k
                        unfold f_X12_readPoint at mh158
                        unfold B_X12_readPoint_0 at mh158
                        obtain ⟨mr_1, mu_2, mu_3, mh159, mh158⟩ := zk_o3 mh158
                        rcases mb_number2 (m := 32) hT hR hf mk155 (by decide) mh159 with ⟨mk160, mk161, mq163, mq164, mq165, mk162⟩ | ⟨mk160, mk161, _, _, _, mk162⟩ | ⟨mk160, _, _, _⟩
                        · replace mq163 := mq163.symm
                          subst mq163
                          replace mq164 := mq164.symm
                          subst mq164
                          replace mq165 := mq165.symm
                          subst mq165
                          have mk162a := mk162.1
                          have mk162b := nmv_b2 (ts := ts) (tb := tb) (at_ + 1)
                          have mh158 := zk_t (by rw [i32_lt, z32_0]; omega) mh158
                          obtain ⟨_, mh158⟩ := zk_gd mh158
                          have mh158 := zk_t (PI_le hI hx (by omega) ck40) mh158
                          obtain ⟨mr_8, mu_9, mh166, mh158⟩ := zk_o2 mh158
                          obtain mk167 := mb_look hT hR mk162 mh166
                          have mh158 := zk_f (fun z => absurd ((BR_E (n := 43) mk167 (by decide)).mp z) (by omega)) mh158
                          obtain ⟨mr_12, mu_13, mh168, mh158⟩ := zk_o2 mh158
                          obtain mk169 := mb_look hT hR mk162 mh168
                          have mh158 := zk_t ((BR_E (n := 45) mk169 (by decide)).mpr (by omega)) mh158
                          unfold B_X12_readPoint_64 at mh158
                          obtain ⟨mr_20, mu_21, mh170, mh158⟩ := zk_o2 mh158
                          obtain mk171 := mb_look hT hR mk162 mh170
                          have mh158 := zk_f (fun z => absurd ((BR_E (n := 43) mk171 (by decide)).mp z) (by omega)) mh158
                          unfold B_X12_readPoint_78 at mh158
                          obtain ⟨mv_24, me172, mh158⟩ := zk_lt mh158
                          subst me172
                          obtain ⟨mr_25, mu_26, mh173, mh158⟩ := zk_o2 mh158
                          rcases mb_isNext (n := 102) hT hR ck106 (by decide) mh173 with ⟨mk174, mq176, mq177, mk175⟩ | ⟨mk174, _, _⟩
                          · replace mq176 := mq176.symm
                            subst mq176
                            replace mq177 := mq177.symm
                            subst mq177
                            have mk175a := mk175.1
                            have mh158 := zk_f (by decide) mh158
                            obtain ⟨mv_29, me178, mh158⟩ := zk_lt mh158
                            subst me178
                            unfold B_X12_readPoint_102 at mh158
                            obtain ⟨mr_30, mu_31, mh179, mh158⟩ := zk_o2 mh158
                            rcases mb_isNext (n := 110) hT hR mk175 (by decide) mh179 with ⟨mk180, mq182, mq183, mk181⟩ | ⟨mk180, _, _⟩
                            · replace mq182 := mq182.symm
                              subst mq182
                              replace mq183 := mq183.symm
                              subst mq183
                              have mk181a := mk181.1
                              have mh158 := zk_f (by decide) mh158
                              obtain ⟨mv_34, me184, mh158⟩ := zk_lt mh158
                              subst me184
                              unfold B_X12_readPoint_114 at mh158
                              obtain ⟨mv_35, me185, mh158⟩ := zk_lt mh158
                              subst me185
                              obtain ⟨_, mh158⟩ := zk_gd mh158
                              obtain ⟨mf_37, me186, mh158⟩ := zk_lt mh158
                              simp only [Option.some.injEq, Prod.mk.injEq] at mh158
                              obtain ⟨rfl, rfl, rfl⟩ := mh158
                              subst me186
                              have hv : 0 ≤ (nmv ts tb 2 (at_ + 1)).toInt ∧ (nmv ts tb 2 (at_ + 1)).toInt ≤ 31 := by omega
                              rcases ih M _ _ _ _ _ _ _ _ _ RC R ck122 (CG_pt (A := false) (B := true) hG hv ck40 rfl (BS_u) (BS_t hv)) (PI_add (A := false) (B := true) (F := true) (N := true) hI (by omega) ck40 rfl (BS_u) (BS_t hv) (BS_t hv) (BS_t hv) (by decide) (ix32 hx (by omega))) h k with q | ⟨q1, q2, pi2, q3, q4, q5⟩
                              · exact Or.inl ⟨q.1, q.2.1, RFR_rt q.2.2 ⟨fun _ _ => rfl, fun _ _ => rfl, fun _ _ => rfl, fun _ _ => rfl, fun _ _ => rfl, fun _ _ => rfl, fun _ _ => rfl, fun _ _ => rfl, fun _ _ => rfl, (FP_up (ix32 hx (by omega)) (by omega))⟩⟩
                              · exact Or.inr ⟨q1, q2, pi2, q3, FP_tr (FP_up (ix32 hx (by omega)) (by omega)) q4, q5⟩
                            · exact (mk180 ck121).elim
                          · exact (mk174 ck113).elim
                        · exfalso; omega
                        · exact (zx_2 ck9 mk160).elim
                      · exact (mk154 ck2).elim
                    · replace cq125 := cq125.symm
                      subst cq125
                      replace cq126 := cq126.symm
                      subst cq126
                      replace h := zk_t (by decide) h
                      unfold B_X8_readPoints_139 at h
                      replace h := zk_lt h
                      obtain ⟨cv_37, ce129, h⟩ := h
                      subst ce129
                      replace h := zk_lt h
                      obtain ⟨cv_38, ce130, h⟩ := h
                      subst ce130
                      have hroom := CG_room hG (by first | omega | decide) ck40
                      replace k := zk_f (by rw [i32_le, z32_0]; omega) k
                      replace k := zk_o2 k
                      obtain ⟨mr_35, mu_36, mh187, k⟩ := k
                      rcases mb_isNext (n := 59) hT hR hp (by decide) mh187 with ⟨mk188, mq190, mq191, mk189⟩ | ⟨mk188, _, _⟩
                      · replace mq190 := mq190.symm
                        subst mq190
                        replace mq191 := mq191.symm
                        subst mq191
                        have mk189a := mk189.1
                        replace k := zk_f (by decide) k
                        replace k := zk_o3 k
                        obtain ⟨mu_39, mu_40, mu_41, mh192, k⟩ := k
                        unfold f_X12_readPoint at mh192
                        unfold B_X12_readPoint_0 at mh192
                        obtain ⟨mr_1, mu_2, mu_3, mh193, mh192⟩ := zk_o3 mh192
                        rcases mb_number2 (m := 32) hT hR hf mk189 (by decide) mh193 with ⟨mk194, mk195, mq197, mq198, mq199, mk196⟩ | ⟨mk194, mk195, _, _, _, mk196⟩ | ⟨mk194, _, _, _⟩
                        · replace mq197 := mq197.symm
                          subst mq197
                          replace mq198 := mq198.symm
                          subst mq198
                          replace mq199 := mq199.symm
                          subst mq199
                          have mk196a := mk196.1
                          have mk196b := nmv_b2 (ts := ts) (tb := tb) (at_ + 1)
                          have mh192 := zk_t (by rw [i32_lt, z32_0]; omega) mh192
                          obtain ⟨_, mh192⟩ := zk_gd mh192
                          have mh192 := zk_t (PI_le hI hx (by omega) ck40) mh192
                          obtain ⟨mr_8, mu_9, mh200, mh192⟩ := zk_o2 mh192
                          obtain mk201 := mb_look hT hR mk196 mh200
                          have mh192 := zk_f (fun z => absurd ((BR_E (n := 43) mk201 (by decide)).mp z) (by omega)) mh192
                          obtain ⟨mr_12, mu_13, mh202, mh192⟩ := zk_o2 mh192
                          obtain mk203 := mb_look hT hR mk196 mh202
                          have mh192 := zk_t ((BR_E (n := 45) mk203 (by decide)).mpr (by omega)) mh192
                          unfold B_X12_readPoint_64 at mh192
                          obtain ⟨mr_20, mu_21, mh204, mh192⟩ := zk_o2 mh192
                          obtain mk205 := mb_look hT hR mk196 mh204
                          have mh192 := zk_f (fun z => absurd ((BR_E (n := 43) mk205 (by decide)).mp z) (by omega)) mh192
                          unfold B_X12_readPoint_78 at mh192
                          obtain ⟨mv_24, me206, mh192⟩ := zk_lt mh192
                          subst me206
                          obtain ⟨mr_25, mu_26, mh207, mh192⟩ := zk_o2 mh192
                          rcases mb_isNext (n := 102) hT hR ck106 (by decide) mh207 with ⟨mk208, mq210, mq211, mk209⟩ | ⟨mk208, _, _⟩
                          · replace mq210 := mq210.symm
                            subst mq210
                            replace mq211 := mq211.symm
                            subst mq211
                            have mk209a := mk209.1
                            have mh192 := zk_f (by decide) mh192
                            obtain ⟨mv_29, me212, mh192⟩ := zk_lt mh192
                            subst me212
                            unfold B_X12_readPoint_102 at mh192
                            obtain ⟨mr_30, mu_31, mh213, mh192⟩ := zk_o2 mh192
                            rcases mb_isNext (n := 110) hT hR mk209 (by decide) mh213 with ⟨mk214, _, _, mk215⟩ | ⟨mk214, mq216, mq217⟩
                            · exact (ck121 mk214).elim
                            · replace mq216 := mq216.symm
                              subst mq216
                              replace mq217 := mq217.symm
                              subst mq217
                              have mh192 := zk_t (by decide) mh192
                              unfold B_X12_readPoint_114 at mh192
                              obtain ⟨mv_35, me218, mh192⟩ := zk_lt mh192
                              subst me218
                              obtain ⟨_, mh192⟩ := zk_gd mh192
                              obtain ⟨mf_37, me219, mh192⟩ := zk_lt mh192
                              simp only [Option.some.injEq, Prod.mk.injEq] at mh192
                              obtain ⟨rfl, rfl, rfl⟩ := mh192
                              subst me219
                              have hv : 0 ≤ (nmv ts tb 2 (at_ + 1)).toInt ∧ (nmv ts tb 2 (at_ + 1)).toInt ≤ 31 := by omega
                              rcases ih M _ _ _ _ _ _ _ _ _ RC R ck114 (CG_pt (A := false) (B := true) hG hv ck40 rfl (BS_u) (BS_t hv)) (PI_add (A := false) (B := true) (F := true) (N := false) hI (by omega) ck40 rfl (BS_u) (BS_t hv) (BS_t hv) (BS_0) (by decide) (ix32 hx (by omega))) h k with q | ⟨q1, q2, pi2, q3, q4, q5⟩
                              · exact Or.inl ⟨q.1, q.2.1, RFR_rt q.2.2 ⟨fun _ _ => rfl, fun _ _ => rfl, fun _ _ => rfl, fun _ _ => rfl, fun _ _ => rfl, fun _ _ => rfl, fun _ _ => rfl, fun _ _ => rfl, fun _ _ => rfl, (FP_up (ix32 hx (by omega)) (by omega))⟩⟩
                              · exact Or.inr ⟨q1, q2, pi2, q3, FP_tr (FP_up (ix32 hx (by omega)) (by omega)) q4, q5⟩
                          · exact (mk208 ck113).elim
                        · exfalso; omega
                        · exact (zx_2 ck9 mk194).elim
                      · exact (mk188 ck2).elim
                  · replace cq117 := cq117.symm
                    subst cq117
                    replace cq118 := cq118.symm
                    subst cq118
                    replace h := zk_t (by decide) h
                    unfold B_X8_readPoints_115 at h
                    replace h := zk_lt h
                    obtain ⟨cv_32, ce131, h⟩ := h
                    subst ce131
                    replace h := zk_o2 h
                    obtain ⟨cr_33, cu_34, ch132, h⟩ := h
                    rcases cb_acceptN (n := 110) hT hf ck106 (by decide) ch132 with ⟨ck133, cq135, cq136, ck134⟩ | ⟨ck133, cq137, cq138⟩
                    · replace cq135 := cq135.symm
                      subst cq135
                      replace cq136 := cq136.symm
                      subst cq136
                      have ck134a := ck134.1
                      replace h := zk_f (by decide) h
                      unfold B_X8_readPoints_139 at h
                      replace h := zk_lt h
                      obtain ⟨cv_37, ce139, h⟩ := h
                      subst ce139
                      replace h := zk_lt h
                      obtain ⟨cv_38, ce140, h⟩ := h
                      subst ce140
                      have hroom := CG_room hG (by first | omega | decide) ck40
                      replace k := zk_f (by rw [i32_le, z32_0]; omega) k
                      replace k := zk_o2 k
                      obtain ⟨mr_35, mu_36, mh220, k⟩ := k
                      rcases mb_isNext (n := 59) hT hR hp (by decide) mh220 with ⟨mk221, mq223, mq224, mk222⟩ | ⟨mk221, _, _⟩
                      · replace mq223 := mq223.symm
                        subst mq223
                        replace mq224 := mq224.symm
                        subst mq224
                        have mk222a := mk222.1
                        replace k := zk_f (by decide) k
                        replace k := zk_o3 k
                        obtain ⟨mu_39, mu_40, mu_41, mh225, k⟩ := k
                        unfold f_X12_readPoint at mh225
                        unfold B_X12_readPoint_0 at mh225
                        obtain ⟨mr_1, mu_2, mu_3, mh226, mh225⟩ := zk_o3 mh225
                        rcases mb_number2 (m := 32) hT hR hf mk222 (by decide) mh226 with ⟨mk227, mk228, mq230, mq231, mq232, mk229⟩ | ⟨mk227, mk228, _, _, _, mk229⟩ | ⟨mk227, _, _, _⟩
                        · replace mq230 := mq230.symm
                          subst mq230
                          replace mq231 := mq231.symm
                          subst mq231
                          replace mq232 := mq232.symm
                          subst mq232
                          have mk229a := mk229.1
                          have mk229b := nmv_b2 (ts := ts) (tb := tb) (at_ + 1)
                          have mh225 := zk_t (by rw [i32_lt, z32_0]; omega) mh225
                          obtain ⟨_, mh225⟩ := zk_gd mh225
                          have mh225 := zk_t (PI_le hI hx (by omega) ck40) mh225
                          obtain ⟨mr_8, mu_9, mh233, mh225⟩ := zk_o2 mh225
                          obtain mk234 := mb_look hT hR mk229 mh233
                          have mh225 := zk_f (fun z => absurd ((BR_E (n := 43) mk234 (by decide)).mp z) (by omega)) mh225
                          obtain ⟨mr_12, mu_13, mh235, mh225⟩ := zk_o2 mh225
                          obtain mk236 := mb_look hT hR mk229 mh235
                          have mh225 := zk_t ((BR_E (n := 45) mk236 (by decide)).mpr (by omega)) mh225
                          unfold B_X12_readPoint_64 at mh225
                          obtain ⟨mr_20, mu_21, mh237, mh225⟩ := zk_o2 mh225
                          obtain mk238 := mb_look hT hR mk229 mh237
                          have mh225 := zk_f (fun z => absurd ((BR_E (n := 43) mk238 (by decide)).mp z) (by omega)) mh225
                          unfold B_X12_readPoint_78 at mh225
                          obtain ⟨mv_24, me239, mh225⟩ := zk_lt mh225
                          subst me239
                          obtain ⟨mr_25, mu_26, mh240, mh225⟩ := zk_o2 mh225
                          rcases mb_isNext (n := 102) hT hR ck106 (by decide) mh240 with ⟨mk241, _, _, mk242⟩ | ⟨mk241, mq243, mq244⟩
                          · exact (ck113 mk241).elim
                          · replace mq243 := mq243.symm
                            subst mq243
                            replace mq244 := mq244.symm
                            subst mq244
                            have mh225 := zk_t (by decide) mh225
                            unfold B_X12_readPoint_102 at mh225
                            obtain ⟨mr_30, mu_31, mh245, mh225⟩ := zk_o2 mh225
                            rcases mb_isNext (n := 110) hT hR ck106 (by decide) mh245 with ⟨mk246, mq248, mq249, mk247⟩ | ⟨mk246, _, _⟩
                            · replace mq248 := mq248.symm
                              subst mq248
                              replace mq249 := mq249.symm
                              subst mq249
                              have mk247a := mk247.1
                              have mh225 := zk_f (by decide) mh225
                              obtain ⟨mv_34, me250, mh225⟩ := zk_lt mh225
                              subst me250
                              unfold B_X12_readPoint_114 at mh225
                              obtain ⟨mv_35, me251, mh225⟩ := zk_lt mh225
                              subst me251
                              obtain ⟨_, mh225⟩ := zk_gd mh225
                              obtain ⟨mf_37, me252, mh225⟩ := zk_lt mh225
                              simp only [Option.some.injEq, Prod.mk.injEq] at mh225
                              obtain ⟨rfl, rfl, rfl⟩ := mh225
                              subst me252
                              have hv : 0 ≤ (nmv ts tb 2 (at_ + 1)).toInt ∧ (nmv ts tb 2 (at_ + 1)).toInt ≤ 31 := by omega
                              rcases ih M _ _ _ _ _ _ _ _ _ RC R ck134 (CG_pt (A := false) (B := true) hG hv ck40 rfl (BS_u) (BS_t hv)) (PI_add (A := false) (B := true) (F := false) (N := true) hI (by omega) ck40 rfl (BS_u) (BS_t hv) (BS_0) (BS_t hv) (by decide) (ix32 hx (by omega))) h k with q | ⟨q1, q2, pi2, q3, q4, q5⟩
                              · exact Or.inl ⟨q.1, q.2.1, RFR_rt q.2.2 ⟨fun _ _ => rfl, fun _ _ => rfl, fun _ _ => rfl, fun _ _ => rfl, fun _ _ => rfl, fun _ _ => rfl, fun _ _ => rfl, fun _ _ => rfl, fun _ _ => rfl, (FP_up (ix32 hx (by omega)) (by omega))⟩⟩
                              · exact Or.inr ⟨q1, q2, pi2, q3, FP_tr (FP_up (ix32 hx (by omega)) (by omega)) q4, q5⟩
                            · exact (mk246 ck133).elim
                        · exfalso; omega
                        · exact (zx_2 ck9 mk227).elim
                      · exact (mk221 ck2).elim
                    · replace cq137 := cq137.symm
                      subst cq137
                      replace cq138 := cq138.symm
                      subst cq138
                      replace h := zk_t (by decide) h
                      unfold B_X8_readPoints_139 at h
                      replace h := zk_lt h
                      obtain ⟨cv_37, ce141, h⟩ := h
                      subst ce141
                      replace h := zk_lt h
                      obtain ⟨cv_38, ce142, h⟩ := h
                      subst ce142
                      have hroom := CG_room hG (by first | omega | decide) ck40
                      replace k := zk_f (by rw [i32_le, z32_0]; omega) k
                      replace k := zk_o2 k
                      obtain ⟨mr_35, mu_36, mh253, k⟩ := k
                      rcases mb_isNext (n := 59) hT hR hp (by decide) mh253 with ⟨mk254, mq256, mq257, mk255⟩ | ⟨mk254, _, _⟩
                      · replace mq256 := mq256.symm
                        subst mq256
                        replace mq257 := mq257.symm
                        subst mq257
                        have mk255a := mk255.1
                        replace k := zk_f (by decide) k
                        replace k := zk_o3 k
                        obtain ⟨mu_39, mu_40, mu_41, mh258, k⟩ := k
                        unfold f_X12_readPoint at mh258
                        unfold B_X12_readPoint_0 at mh258
                        obtain ⟨mr_1, mu_2, mu_3, mh259, mh258⟩ := zk_o3 mh258
                        rcases mb_number2 (m := 32) hT hR hf mk255 (by decide) mh259 with ⟨mk260, mk261, mq263, mq264, mq265, mk262⟩ | ⟨mk260, mk261, _, _, _, mk262⟩ | ⟨mk260, _, _, _⟩
                        · replace mq263 := mq263.symm
                          subst mq263
                          replace mq264 := mq264.symm
                          subst mq264
                          replace mq265 := mq265.symm
                          subst mq265
                          have mk262a := mk262.1
                          have mk262b := nmv_b2 (ts := ts) (tb := tb) (at_ + 1)
                          have mh258 := zk_t (by rw [i32_lt, z32_0]; omega) mh258
                          obtain ⟨_, mh258⟩ := zk_gd mh258
                          have mh258 := zk_t (PI_le hI hx (by omega) ck40) mh258
                          obtain ⟨mr_8, mu_9, mh266, mh258⟩ := zk_o2 mh258
                          obtain mk267 := mb_look hT hR mk262 mh266
                          have mh258 := zk_f (fun z => absurd ((BR_E (n := 43) mk267 (by decide)).mp z) (by omega)) mh258
                          obtain ⟨mr_12, mu_13, mh268, mh258⟩ := zk_o2 mh258
                          obtain mk269 := mb_look hT hR mk262 mh268
                          have mh258 := zk_t ((BR_E (n := 45) mk269 (by decide)).mpr (by omega)) mh258
                          unfold B_X12_readPoint_64 at mh258
                          obtain ⟨mr_20, mu_21, mh270, mh258⟩ := zk_o2 mh258
                          obtain mk271 := mb_look hT hR mk262 mh270
                          have mh258 := zk_f (fun z => absurd ((BR_E (n := 43) mk271 (by decide)).mp z) (by omega)) mh258
                          unfold B_X12_readPoint_78 at mh258
                          obtain ⟨mv_24, me272, mh258⟩ := zk_lt mh258
                          subst me272
                          obtain ⟨mr_25, mu_26, mh273, mh258⟩ := zk_o2 mh258
                          rcases mb_isNext (n := 102) hT hR ck106 (by decide) mh273 with ⟨mk274, _, _, mk275⟩ | ⟨mk274, mq276, mq277⟩
                          · exact (ck113 mk274).elim
                          · replace mq276 := mq276.symm
                            subst mq276
                            replace mq277 := mq277.symm
                            subst mq277
                            have mh258 := zk_t (by decide) mh258
                            unfold B_X12_readPoint_102 at mh258
                            obtain ⟨mr_30, mu_31, mh278, mh258⟩ := zk_o2 mh258
                            rcases mb_isNext (n := 110) hT hR ck106 (by decide) mh278 with ⟨mk279, _, _, mk280⟩ | ⟨mk279, mq281, mq282⟩
                            · exact (ck133 mk279).elim
                            · replace mq281 := mq281.symm
                              subst mq281
                              replace mq282 := mq282.symm
                              subst mq282
                              have mh258 := zk_t (by decide) mh258
                              unfold B_X12_readPoint_114 at mh258
                              obtain ⟨mv_35, me283, mh258⟩ := zk_lt mh258
                              subst me283
                              obtain ⟨_, mh258⟩ := zk_gd mh258
                              obtain ⟨mf_37, me284, mh258⟩ := zk_lt mh258
                              simp only [Option.some.injEq, Prod.mk.injEq] at mh258
                              obtain ⟨rfl, rfl, rfl⟩ := mh258
                              subst me284
                              have hv : 0 ≤ (nmv ts tb 2 (at_ + 1)).toInt ∧ (nmv ts tb 2 (at_ + 1)).toInt ≤ 31 := by omega
                              rcases ih M _ _ _ _ _ _ _ _ _ RC R ck106 (CG_pt (A := false) (B := true) hG hv ck40 rfl (BS_u) (BS_t hv)) (PI_add (A := false) (B := true) (F := false) (N := false) hI (by omega) ck40 rfl (BS_u) (BS_t hv) (BS_0) (BS_0) (by decide) (ix32 hx (by omega))) h k with q | ⟨q1, q2, pi2, q3, q4, q5⟩
                              · exact Or.inl ⟨q.1, q.2.1, RFR_rt q.2.2 ⟨fun _ _ => rfl, fun _ _ => rfl, fun _ _ => rfl, fun _ _ => rfl, fun _ _ => rfl, fun _ _ => rfl, fun _ _ => rfl, fun _ _ => rfl, fun _ _ => rfl, (FP_up (ix32 hx (by omega)) (by omega))⟩⟩
                              · exact Or.inr ⟨q1, q2, pi2, q3, FP_tr (FP_up (ix32 hx (by omega)) (by omega)) q4, q5⟩
                        · exfalso; omega
                        · exact (zx_2 ck9 mk260).elim
                      · exact (mk254 ck2).elim
                · replace cq109 := cq109.symm
                  subst cq109
                  replace cq110 := cq110.symm
                  subst cq110
                  replace h := zk_lt h
                  obtain ⟨cv_26, ce143, h⟩ := h
                  subst ce143
                  unfold B_X8_readPoints_95 at h
                  replace h := zk_o2 h
                  obtain ⟨cr_28, cu_29, ch144, h⟩ := h
                  obtain ⟨cq145, cq146⟩ := cb_acceptP (ck10).1 ch144
                  replace cq145 := cq145.symm
                  subst cq145
                  replace cq146 := cq146.symm
                  subst cq146
                  replace h := zk_t (by decide) h
                  unfold B_X8_readPoints_115 at h
                  replace h := zk_lt h
                  obtain ⟨cv_32, ce147, h⟩ := h
                  subst ce147
                  replace h := zk_o2 h
                  obtain ⟨cr_33, cu_34, ch148, h⟩ := h
                  obtain ⟨cq149, cq150⟩ := cb_acceptP (ck10).1 ch148
                  replace cq149 := cq149.symm
                  subst cq149
                  replace cq150 := cq150.symm
                  subst cq150
                  replace h := zk_t (by decide) h
                  unfold B_X8_readPoints_139 at h
                  replace h := zk_lt h
                  obtain ⟨cv_37, ce151, h⟩ := h
                  subst ce151
                  replace h := zk_lt h
                  obtain ⟨cv_38, ce152, h⟩ := h
                  subst ce152
                  have hroom := CG_room hG (by first | omega | decide) ck40
                  replace k := zk_f (by rw [i32_le, z32_0]; omega) k
                  replace k := zk_o2 k
                  obtain ⟨mr_35, mu_36, mh285, k⟩ := k
                  rcases mb_isNext (n := 59) hT hR hp (by decide) mh285 with ⟨mk286, mq288, mq289, mk287⟩ | ⟨mk286, _, _⟩
                  · replace mq288 := mq288.symm
                    subst mq288
                    replace mq289 := mq289.symm
                    subst mq289
                    have mk287a := mk287.1
                    replace k := zk_f (by decide) k
                    replace k := zk_o3 k
                    obtain ⟨mu_39, mu_40, mu_41, mh290, k⟩ := k
                    unfold f_X12_readPoint at mh290
                    unfold B_X12_readPoint_0 at mh290
                    obtain ⟨mr_1, mu_2, mu_3, mh291, mh290⟩ := zk_o3 mh290
                    rcases mb_number2 (m := 32) hT hR hf mk287 (by decide) mh291 with ⟨mk292, mk293, mq295, mq296, mq297, mk294⟩ | ⟨mk292, mk293, _, _, _, mk294⟩ | ⟨mk292, _, _, _⟩
                    · replace mq295 := mq295.symm
                      subst mq295
                      replace mq296 := mq296.symm
                      subst mq296
                      replace mq297 := mq297.symm
                      subst mq297
                      have mk294a := mk294.1
                      have mk294b := nmv_b2 (ts := ts) (tb := tb) (at_ + 1)
                      have mh290 := zk_t (by rw [i32_lt, z32_0]; omega) mh290
                      obtain ⟨_, mh290⟩ := zk_gd mh290
                      have mh290 := zk_t (PI_le hI hx (by omega) ck40) mh290
                      obtain ⟨mr_8, mu_9, mh298, mh290⟩ := zk_o2 mh290
                      obtain mk299 := mb_look hT hR mk294 mh298
                      have mh290 := zk_f (fun z => absurd ((BR_E (n := 43) mk299 (by decide)).mp z) (by omega)) mh290
                      obtain ⟨mr_12, mu_13, mh300, mh290⟩ := zk_o2 mh290
                      obtain mk301 := mb_look hT hR mk294 mh300
                      have mh290 := zk_f (fun z => absurd ((BR_E (n := 45) mk301 (by decide)).mp z) (by omega)) mh290
                      obtain ⟨mu_16, mh302, mh290⟩ := zk_o1 mh290
                      obtain mq303 := mb_wrongN hf mh302
                      replace mq303 := mq303.symm
                      subst mq303
                      simp only [Option.some.injEq, Prod.mk.injEq] at mh290
                      obtain ⟨rfl, rfl, rfl⟩ := mh290
                      first
                      | (exfalso; omega)
                      | (obtain ⟨e7, e7b⟩ := fm_83 (mk294).1 k
                         have e8 := fq_ptsG (mk294).1 h
                         exact Or.inl ⟨by rw [e8]; exact (mk294).1, by rw [e8]; exact e7, by rw [e7b]; exact RFR_rf⟩)
                    · exfalso; omega
                    · exact (zx_2 ck9 mk292).elim
                  · exact (mk286 ck2).elim
        · replace cq15 := cq15.symm
          subst cq15
          replace cq16 := cq16.symm
          subst cq16
          replace cq17 := cq17.symm
          subst cq17
          replace cq18 := cq18.symm
          subst cq18
          replace h := zk_f (by decide) h
          replace h := zk_o2 h
          obtain ⟨cr_12, cu_13, ch153, h⟩ := h
          rcases cb_hasFound (by first | omega | decide) ch153 with ⟨ck154, cq155⟩ | ⟨ck154, cq156⟩
          · replace cq155 := cq155.symm
            subst cq155
            replace h := zk_f (by decide) h
            unfold B_X8_readPoints_42 at h
            unfold B_X8_readPoints_43 at h
            replace h := zk_o1 h
            obtain ⟨cu_16, ch157, h⟩ := h
            obtain cq158 := cb_judgeP (ck3).1 ch157
            replace cq158 := cq158.symm
            subst cq158
            replace h := zk_lt h
            obtain ⟨cv_18, ce159, h⟩ := h
            subst ce159
            replace h := zk_o2 h
            obtain ⟨cr_19, cu_20, ch160, h⟩ := h
            obtain ⟨cq161, cq162⟩ := cb_acceptP (ck3).1 ch160
            replace cq161 := cq161.symm
            subst cq161
            replace cq162 := cq162.symm
            subst cq162
            replace h := zk_t (by decide) h
            replace h := zk_o2 h
            obtain ⟨cu_23, cu_24, ch163, h⟩ := h
            obtain ⟨cq164, cq165⟩ := cb_expectP (ck3).1 ch163
            replace cq164 := cq164.symm
            subst cq164
            replace cq165 := cq165.symm
            subst cq165
            replace h := zk_lt h
            obtain ⟨cv_26, ce166, h⟩ := h
            subst ce166
            unfold B_X8_readPoints_95 at h
            replace h := zk_o2 h
            obtain ⟨cr_28, cu_29, ch167, h⟩ := h
            obtain ⟨cq168, cq169⟩ := cb_acceptP (ck3).1 ch167
            replace cq168 := cq168.symm
            subst cq168
            replace cq169 := cq169.symm
            subst cq169
            replace h := zk_t (by decide) h
            unfold B_X8_readPoints_115 at h
            replace h := zk_lt h
            obtain ⟨cv_32, ce170, h⟩ := h
            subst ce170
            replace h := zk_o2 h
            obtain ⟨cr_33, cu_34, ch171, h⟩ := h
            obtain ⟨cq172, cq173⟩ := cb_acceptP (ck3).1 ch171
            replace cq172 := cq172.symm
            subst cq172
            replace cq173 := cq173.symm
            subst cq173
            replace h := zk_t (by decide) h
            unfold B_X8_readPoints_139 at h
            replace h := zk_lt h
            obtain ⟨cv_37, ce174, h⟩ := h
            subst ce174
            replace h := zk_lt h
            obtain ⟨cv_38, ce175, h⟩ := h
            subst ce175
            replace k := zk_f (by rw [i32_le, z32_0]; omega) k
            replace k := zk_o2 k
            obtain ⟨mr_35, mu_36, mh304, k⟩ := k
            rcases mb_isNext (n := 59) hT hR hp (by decide) mh304 with ⟨mk305, mq307, mq308, mk306⟩ | ⟨mk305, _, _⟩
            · replace mq307 := mq307.symm
              subst mq307
              replace mq308 := mq308.symm
              subst mq308
              have mk306a := mk306.1
              replace k := zk_f (by decide) k
              replace k := zk_o3 k
              obtain ⟨mu_39, mu_40, mu_41, mh309, k⟩ := k
              unfold f_X12_readPoint at mh309
              unfold B_X12_readPoint_0 at mh309
              obtain ⟨mr_1, mu_2, mu_3, mh310, mh309⟩ := zk_o3 mh309
              rcases mb_number2 (m := 32) hT hR hf mk306 (by decide) mh310 with ⟨mk311, mk312, _, _, _, mk313⟩ | ⟨mk311, mk312, _, _, _, mk313⟩ | ⟨mk311, mq314, mq315, mq316⟩
              · exact (zx_2 mk311 ck9).elim
              · exact (zx_2 mk311 ck9).elim
              · replace mq314 := mq314.symm
                subst mq314
                replace mq315 := mq315.symm
                subst mq315
                replace mq316 := mq316.symm
                subst mq316
                have mh309 := zk_f (by rw [i32_lt, z32_0]; omega) mh309
                simp only [Option.some.injEq, Prod.mk.injEq] at mh309
                obtain ⟨rfl, rfl, rfl⟩ := mh309
                first
                | (exfalso; omega)
                | (obtain ⟨e7, e7b⟩ := fm_83 (mk306).1 k
                   have e8 := fq_ptsG (mk306).1 h
                   exact Or.inl ⟨by rw [e8]; exact (mk306).1, by rw [e8]; exact e7, by rw [e7b]; exact RFR_rf⟩)
            · exact (mk305 ck2).elim
          · replace cq156 := cq156.symm
            subst cq156
            replace h := zk_t (by decide) h
            unfold B_X8_readPoints_43 at h
            replace h := zk_o1 h
            obtain ⟨cu_16, ch176, h⟩ := h
            obtain cq177 := cb_judgeP (ck3).1 ch176
            replace cq177 := cq177.symm
            subst cq177
            replace h := zk_lt h
            obtain ⟨cv_18, ce178, h⟩ := h
            subst ce178
            replace h := zk_o2 h
            obtain ⟨cr_19, cu_20, ch179, h⟩ := h
            obtain ⟨cq180, cq181⟩ := cb_acceptP (ck3).1 ch179
            replace cq180 := cq180.symm
            subst cq180
            replace cq181 := cq181.symm
            subst cq181
            replace h := zk_t (by decide) h
            replace h := zk_o2 h
            obtain ⟨cu_23, cu_24, ch182, h⟩ := h
            obtain ⟨cq183, cq184⟩ := cb_expectP (ck3).1 ch182
            replace cq183 := cq183.symm
            subst cq183
            replace cq184 := cq184.symm
            subst cq184
            replace h := zk_lt h
            obtain ⟨cv_26, ce185, h⟩ := h
            subst ce185
            unfold B_X8_readPoints_95 at h
            replace h := zk_o2 h
            obtain ⟨cr_28, cu_29, ch186, h⟩ := h
            obtain ⟨cq187, cq188⟩ := cb_acceptP (ck3).1 ch186
            replace cq187 := cq187.symm
            subst cq187
            replace cq188 := cq188.symm
            subst cq188
            replace h := zk_t (by decide) h
            unfold B_X8_readPoints_115 at h
            replace h := zk_lt h
            obtain ⟨cv_32, ce189, h⟩ := h
            subst ce189
            replace h := zk_o2 h
            obtain ⟨cr_33, cu_34, ch190, h⟩ := h
            obtain ⟨cq191, cq192⟩ := cb_acceptP (ck3).1 ch190
            replace cq191 := cq191.symm
            subst cq191
            replace cq192 := cq192.symm
            subst cq192
            replace h := zk_t (by decide) h
            unfold B_X8_readPoints_139 at h
            replace h := zk_lt h
            obtain ⟨cv_37, ce193, h⟩ := h
            subst ce193
            replace h := zk_lt h
            obtain ⟨cv_38, ce194, h⟩ := h
            subst ce194
            have hroom := CG_room hG (by first | omega | decide) ck154
            replace k := zk_f (by rw [i32_le, z32_0]; omega) k
            replace k := zk_o2 k
            obtain ⟨mr_35, mu_36, mh317, k⟩ := k
            rcases mb_isNext (n := 59) hT hR hp (by decide) mh317 with ⟨mk318, mq320, mq321, mk319⟩ | ⟨mk318, _, _⟩
            · replace mq320 := mq320.symm
              subst mq320
              replace mq321 := mq321.symm
              subst mq321
              have mk319a := mk319.1
              replace k := zk_f (by decide) k
              replace k := zk_o3 k
              obtain ⟨mu_39, mu_40, mu_41, mh322, k⟩ := k
              unfold f_X12_readPoint at mh322
              unfold B_X12_readPoint_0 at mh322
              obtain ⟨mr_1, mu_2, mu_3, mh323, mh322⟩ := zk_o3 mh322
              rcases mb_number2 (m := 32) hT hR hf mk319 (by decide) mh323 with ⟨mk324, mk325, _, _, _, mk326⟩ | ⟨mk324, mk325, _, _, _, mk326⟩ | ⟨mk324, mq327, mq328, mq329⟩
              · exact (zx_2 mk324 ck9).elim
              · exact (zx_2 mk324 ck9).elim
              · replace mq327 := mq327.symm
                subst mq327
                replace mq328 := mq328.symm
                subst mq328
                replace mq329 := mq329.symm
                subst mq329
                have mh322 := zk_f (by rw [i32_lt, z32_0]; omega) mh322
                simp only [Option.some.injEq, Prod.mk.injEq] at mh322
                obtain ⟨rfl, rfl, rfl⟩ := mh322
                first
                | (exfalso; omega)
                | (obtain ⟨e7, e7b⟩ := fm_83 (mk319).1 k
                   have e8 := fq_ptsG (mk319).1 h
                   exact Or.inl ⟨by rw [e8]; exact (mk319).1, by rw [e8]; exact e7, by rw [e7b]; exact RFR_rf⟩)
            · exact (mk318 ck2).elim
      · replace cq6 := cq6.symm
        subst cq6
        replace cq7 := cq7.symm
        subst cq7
        replace h := zk_t (by decide) h
        replace k := zk_f (by rw [i32_le, z32_0]; omega) k
        replace k := zk_o2 k
        obtain ⟨mr_35, mu_36, mh330, k⟩ := k
        rcases mb_isNext (n := 59) hT hR hp (by decide) mh330 with ⟨mk331, _, _, mk332⟩ | ⟨mk331, mq333, mq334⟩
        · exact (ck2 mk331).elim
        · replace mq333 := mq333.symm
          subst mq333
          replace mq334 := mq334.symm
          subst mq334
          replace k := zk_t (by decide) k
          replace h := Option.some.inj h
          rw [← h]
          first | (exfalso; omega) | exact Or.inr ⟨rfl, hp, mod_pointIs, hI, FP_rf, _, k⟩

set_option maxHeartbeats 4000000 in
set_option maxRecDepth 20000 in
theorem fq_end {ts : Int32} {at_ : Int32} {f : Int32} {tb : Nat → Int32} {su_who : Int32} {su_against : Int32} {su_kind : Int32} {su_won : Int32} {su_day : Int32} {su_land : Int32} {su_undoneFrom : Int32} {su_askedCount : Int32} {su_askedBits : Int32} {su_first : Int32} {su_foundSo : Int32} {su_foundNot : Int32} {su_fought : Int32} {su_needed : Int32} {sp : Value} {na : Int32} {R : Int32 × Int32 × Int32 × Int32 × Int32 × Int32} (hf : 0 ≤ f.toInt) (h : f_X8_readEnding ts tb sp at_ na f su_who su_against su_kind su_won su_day su_land su_undoneFrom su_askedCount su_askedBits su_first su_foundSo su_foundNot su_fought su_needed = some R) : R.2.2.1 = f := by
  unfold f_X8_readEnding B_X8_readEnding_0 at h
  replace h := zk_o2 h
  obtain ⟨cu_1, cu_2, ch1, h⟩ := h
  obtain ⟨cq2, cq3⟩ := cb_expectP hf ch1
  replace cq2 := cq2.symm
  subst cq2
  replace cq3 := cq3.symm
  subst cq3
  replace h := zk_o2 h
  obtain ⟨cr_4, cu_5, ch4, h⟩ := h
  obtain ⟨cq5, cq6⟩ := cb_acceptP hf ch4
  replace cq5 := cq5.symm
  subst cq5
  replace cq6 := cq6.symm
  subst cq6
  replace h := zk_t (by decide) h
  replace h := zk_o2 h
  obtain ⟨cr_8, cu_9, ch7, h⟩ := h
  obtain ⟨cq8, cq9⟩ := cb_acceptP hf ch7
  replace cq8 := cq8.symm
  subst cq8
  replace cq9 := cq9.symm
  subst cq9
  replace h := zk_t (by decide) h
  replace h := zk_o2 h
  obtain ⟨cr_12, cu_13, ch10, h⟩ := h
  obtain ⟨cq11, cq12⟩ := cb_acceptP hf ch10
  replace cq11 := cq11.symm
  subst cq11
  replace cq12 := cq12.symm
  subst cq12
  replace h := zk_t (by decide) h
  replace h := zk_o2 h
  obtain ⟨cr_16, cu_17, ch13, h⟩ := h
  obtain ⟨cq14, cq15⟩ := cb_acceptP hf ch13
  replace cq14 := cq14.symm
  subst cq14
  replace cq15 := cq15.symm
  subst cq15
  replace h := zk_t (by decide) h
  unfold B_X8_readEnding_106 at h
  replace h := zk_t (by decide) h
  replace h := zk_o2 h
  obtain ⟨cu_30, cu_31, ch16, h⟩ := h
  obtain ⟨cq17, cq18⟩ := cb_expectP hf ch16
  replace cq17 := cq17.symm
  subst cq17
  replace cq18 := cq18.symm
  subst cq18
  unfold B_X8_readEnding_123 at h
  replace h := zk_o2 h
  obtain ⟨cr_33, cu_34, ch19, h⟩ := h
  obtain ⟨cq20, cq21⟩ := cb_acceptP hf ch19
  replace cq20 := cq20.symm
  subst cq20
  replace cq21 := cq21.symm
  subst cq21
  replace h := zk_t (by decide) h
  unfold B_X8_readEnding_138 at h
  replace h := zk_t (by decide) h
  replace h := zk_o2 h
  obtain ⟨cu_38, cu_39, ch22, h⟩ := h
  obtain ⟨cq23, cq24⟩ := cb_expectP hf ch22
  replace cq23 := cq23.symm
  subst cq23
  replace cq24 := cq24.symm
  subst cq24
  rw [← Option.some.inj h]
set_option maxHeartbeats 4000000 in
set_option maxRecDepth 20000 in
theorem fq_time {ts : Int32} {at_ : Int32} {f : Int32} {tb : Nat → Int32} {su_who : Int32} {su_against : Int32} {su_kind : Int32} {su_won : Int32} {su_day : Int32} {su_land : Int32} {su_undoneFrom : Int32} {su_askedCount : Int32} {su_askedBits : Int32} {su_first : Int32} {su_foundSo : Int32} {su_foundNot : Int32} {su_fought : Int32} {su_needed : Int32} {sp : Value} {na : Int32} {R : Int32 × Int32 × Int32 × Int32 × Int32} (hf : 0 ≤ f.toInt) (h : f_X8_readTime ts tb sp at_ na f su_who su_against su_kind su_won su_day su_land su_undoneFrom su_askedCount su_askedBits su_first su_foundSo su_foundNot su_fought su_needed = some R) : R.2.2.1 = f := by
  unfold f_X8_readTime B_X8_readTime_0 at h
  replace h := zk_o2 h
  obtain ⟨cu_1, cu_2, ch1, h⟩ := h
  obtain ⟨cq2, cq3⟩ := cb_expectP hf ch1
  replace cq2 := cq2.symm
  subst cq2
  replace cq3 := cq3.symm
  subst cq3
  replace h := zk_o4 h
  obtain ⟨cr_4, cu_5, cu_6, cu_7, ch4, h⟩ := h
  obtain ⟨cq5, cq6, cq7, cq8⟩ := cb_numberP4 hf ch4
  replace cq5 := cq5.symm
  subst cq5
  replace cq6 := cq6.symm
  subst cq6
  replace cq7 := cq7.symm
  subst cq7
  replace cq8 := cq8.symm
  subst cq8
  replace h := zk_o2 h
  obtain ⟨cu_9, cu_10, ch9, h⟩ := h
  obtain ⟨cq10, cq11⟩ := cb_expectP hf ch9
  replace cq10 := cq10.symm
  subst cq10
  replace cq11 := cq11.symm
  subst cq11
  replace h := zk_o4 h
  obtain ⟨cr_12, cu_13, cu_14, cu_15, ch12, h⟩ := h
  obtain ⟨cq13, cq14, cq15, cq16⟩ := cb_numberP1 hf ch12
  replace cq13 := cq13.symm
  subst cq13
  replace cq14 := cq14.symm
  subst cq14
  replace cq15 := cq15.symm
  subst cq15
  replace cq16 := cq16.symm
  subst cq16
  replace h := zk_f (by decide) h
  unfold B_X8_readTime_45 at h
  replace h := zk_o1 h
  obtain ⟨cu_18, ch17, h⟩ := h
  obtain cq18 := cb_judgeP hf ch17
  replace cq18 := cq18.symm
  subst cq18
  rw [← Option.some.inj h]
set_option maxHeartbeats 4000000 in
set_option maxRecDepth 20000 in
theorem fq_claims {ts : Int32} {at_ : Int32} {f : Int32} {tb : Nat → Int32} {su_who : Int32} {su_against : Int32} {su_kind : Int32} {su_won : Int32} {su_day : Int32} {su_land : Int32} {su_undoneFrom : Int32} {su_askedCount : Int32} {su_askedBits : Int32} {su_first : Int32} {su_foundSo : Int32} {su_foundNot : Int32} {su_fought : Int32} {su_needed : Int32} {su_asked : Nat → Int32} {sp : Value} {na : Int32} {N : Nat} {x2 : Int32} {R : Int32 × Int32 × Int32 × Int32 × Int32 × (Nat → Int32)} (hf : 0 ≤ f.toInt) (h : f_X8_readClaims N x2 ts tb sp at_ na f su_who su_against su_kind su_won su_day su_land su_undoneFrom su_askedCount su_askedBits su_first su_foundSo su_foundNot su_fought su_needed su_asked = some R) : R.2.2.1 = f := by
  unfold f_X8_readClaims B_X8_readClaims_0 at h
  cases N with
  | zero => cases h
  | succ N =>
  replace h : B_X8_readClaims_2 (G_X8_readClaims ts tb sp su_who su_against su_kind su_won su_day su_land su_undoneFrom su_first su_foundSo su_foundNot su_fought su_needed N) ts tb sp su_who su_against su_kind su_won su_day su_land su_undoneFrom su_first su_foundSo su_foundNot su_fought su_needed x2 0 at_ na f su_askedCount su_askedBits su_asked = some R := h
  unfold B_X8_readClaims_2 at h
  replace h := zk_f (by decide) h
  replace h := zk_t (by rw [i32_le, z32_0]; omega) h
  rw [← Option.some.inj h]
set_option maxHeartbeats 4000000 in
set_option maxRecDepth 20000 in
theorem fq_points {ts : Int32} {at_ : Int32} {f : Int32} {tb : Nat → Int32} {su_who : Int32} {su_against : Int32} {su_kind : Int32} {su_won : Int32} {su_day : Int32} {su_land : Int32} {su_undoneFrom : Int32} {su_askedCount : Int32} {su_askedBits : Int32} {su_first : Int32} {su_foundSo : Int32} {su_foundNot : Int32} {su_fought : Int32} {su_needed : Int32} {sp : Value} {na : Int32} {N : Nat} {R : Int32 × Int32 × Int32 × Int32 × Int32 × Int32 × Int32} (hf : 0 ≤ f.toInt) (h : f_X8_readPoints N ts tb sp at_ na f su_who su_against su_kind su_won su_day su_land su_undoneFrom su_askedCount su_askedBits su_first su_foundSo su_foundNot su_fought su_needed = some R) : R.2.2.1 = f := by
  unfold f_X8_readPoints B_X8_readPoints_0 at h
  cases N with
  | zero => cases h
  | succ N =>
  replace h : B_X8_readPoints_2 (G_X8_readPoints ts tb sp su_who su_against su_kind su_won su_day su_land su_undoneFrom su_askedCount su_askedBits su_first N) ts tb sp su_who su_against su_kind su_won su_day su_land su_undoneFrom su_askedCount su_askedBits su_first 0 at_ na f su_foundSo su_foundNot su_fought su_needed = some R := h
  unfold B_X8_readPoints_2 at h
  replace h := zk_f (by decide) h
  replace h := zk_o2 h
  obtain ⟨cr_2, cu_3, ch1, h⟩ := h
  obtain ⟨cq2, cq3⟩ := cb_acceptP hf ch1
  replace cq2 := cq2.symm
  subst cq2
  replace cq3 := cq3.symm
  subst cq3
  replace h := zk_t (by decide) h
  rw [← Option.some.inj h]
theorem PB_0 {ts : Int32} (hT : TS ts) : PB ts 0 := ⟨by decide, by rw [z32_0]; exact hT.1⟩
theorem m1_neg : (-1 : Int32).toInt < 0 := by decide
set_option maxHeartbeats 4000000 in
set_option maxRecDepth 20000 in
theorem sim_read {mod_code : Int32} {court_shoeCount : Int32} {mod_claims : Int32} {ts : Int32} {court_suitCount : Int32} {mod_doneMany : Int32} {mod_undoneMany : Int32} {mod_open : Int32} {mod_laid : Int32} {mod_isBoth : Int32} {mod_wished : Int32} {mod_bestMany : Int32} {mod_bestRow : Int32} {mod_ringDigits : Int32} {mod_traces : Int32} {tm : Nat → Int32} {mod_askedMany : Nat → Int32} {mod_asked : Nat → Int32} {mod_pointIs : Nat → Int32} {mod_endKind : Nat → Int32} {mod_isWon : Nat → Int32} {mod_firstMany : Nat → Int32} {mod_suedBy : Nat → Int32} {mod_suedOn : Nat → Int32} {mod_suitDay : Nat → Int32} {mod_suitLand : Nat → Int32} {tb : Nat → Int32} {su_who : Int32} {su_against : Int32} {su_kind : Int32} {su_won : Int32} {su_day : Int32} {su_land : Int32} {su_undoneFrom : Int32} {su_first : Int32} {su_asked : Nat → Int32} {sp : Value} {na : Int32} {v0 : Value} {x1 n9 a9 f3 w1 g1 k1 v1 d1 l1 n1 b1 s1 so1 no1 fo1 ne1 : Int32} {as1 : Nat → Int32} {M : Nat} {R : Int32 × Int32 × (Nat → Int32) × (Nat → Int32) × (Nat → Int32) × (Nat → Int32) × (Nat → Int32) × (Nat → Int32) × (Nat → Int32) × (Nat → Int32) × (Nat → Int32) × (Nat → Int32)} (hT : TS ts) (hR : TR ts tb tm) (hx : 0 ≤ x1.toInt ∧ x1.toInt ≤ 44) (hcc : 0 ≤ mod_claims.toInt ∧ mod_claims.toInt ≤ 32) (hI0 : CI x1 0 mod_askedMany mod_asked su_asked 0) (hP0 : PI x1 0 0 0 0 mod_pointIs) (h : f_X8_read mod_claims ts tb sp 0 na (-1) su_who su_against su_kind su_won su_day su_land su_undoneFrom 0 0 su_first 0 0 0 0 su_asked = some (v0, a9, n9, f3, w1, g1, k1, v1, d1, l1, n1, b1, s1, so1, no1, fo1, ne1, as1)) (k : f_X12_readSuit M x1 mod_code court_shoeCount mod_claims ts 0 (-1) court_suitCount mod_doneMany mod_undoneMany mod_open mod_laid mod_isBoth mod_wished mod_bestMany mod_bestRow mod_ringDigits mod_traces tm mod_suedBy mod_suedOn mod_endKind mod_isWon mod_suitDay mod_suitLand mod_askedMany mod_firstMany mod_asked mod_pointIs = some R) : R.2.1 = f3 ∧ RFR x1.toInt.toNat (mod_suedBy, mod_suedOn, mod_endKind, mod_isWon, mod_suitDay, mod_suitLand, mod_askedMany, mod_firstMany, mod_asked, mod_pointIs) R.2.2 ∧ (f3.toInt < 0 → f3 = -1 ∧ (0 ≤ w1.toInt ∧ w1.toInt ≤ 19 ∧ 0 ≤ g1.toInt ∧ g1.toInt ≤ 19) ∧ (0 ≤ k1.toInt ∧ k1.toInt ≤ 6) ∧ (0 ≤ v1.toInt ∧ v1.toInt ≤ 1) ∧ (0 ≤ d1.toInt ∧ d1.toInt ≤ 9999 ∧ 0 ≤ l1.toInt ∧ l1.toInt ≤ 7) ∧ ∃ am ma pi fm : Nat → Int32, CI x1 n1 am ma as1 b1 ∧ FR x1 mod_askedMany mod_asked am ma ∧ PI x1 so1 no1 fo1 ne1 pi ∧ FP x1 mod_pointIs pi ∧ ((k1 = 6 → fm = upd (upd mod_firstMany x1.toNatClampNeg n1) x1.toNatClampNeg s1) ∧ (k1 ≠ 6 → fm = upd mod_firstMany x1.toNatClampNeg n1)) ∧ R.2.2 = (upd mod_suedBy x1.toNatClampNeg w1, upd mod_suedOn x1.toNatClampNeg g1, upd mod_endKind x1.toNatClampNeg k1, upd mod_isWon x1.toNatClampNeg v1, upd mod_suitDay x1.toNatClampNeg d1, upd mod_suitLand x1.toNatClampNeg l1, am, fm, ma, pi)) := by
  unfold f_X8_read B_X8_read_0 at h
  replace h := zk_o5 h
  obtain ⟨u_1, u_2, u_3, u_4, u_5, a1, h⟩ := h
  replace h := zk_o6 h
  obtain ⟨u_7, u_8, u_9, u_10, u_11, u_12, a2, h⟩ := h
  replace h := zk_o7 h
  obtain ⟨u_14, u_15, u_16, u_17, u_18, u_19, u_20, a3, h⟩ := h
  replace h := zk_o6 h
  obtain ⟨u_22, u_23, u_24, u_25, u_26, u_27, a4, h⟩ := h
  replace h := zk_o5 h
  obtain ⟨u_29, u_30, u_31, u_32, u_33, a5, h⟩ := h
  have hj : (u_29 < ts → f_X8_judge (0 : Int32) u_29 sp u_29 u_30 u_31 = some f3) ∧ (¬ u_29 < ts → f_X8_judge (1 : Int32) u_29 sp u_29 u_30 u_31 = some f3) ∧ (u_4 = w1 ∧ u_5 = g1 ∧ u_25 = k1 ∧ u_26 = v1 ∧ u_32 = d1 ∧ u_33 = l1 ∧ u_10 = n1 ∧ u_11 = b1 ∧ u_27 = s1 ∧ u_17 = so1 ∧ u_18 = no1 ∧ u_19 = fo1 ∧ u_20 = ne1 ∧ u_12 = as1) := by
    by_cases c : u_29 < ts
    · replace h := zk_t c h
      unfold B_X8_read_61 at h
      replace h := zk_o1 h
      obtain ⟨u, e1, h⟩ := h
      by_cases c2 : 0 ≤ u
      · replace h := zk_t c2 (zk_t c2 h)
        simp only [Option.some.injEq, Prod.mk.injEq] at h
        obtain ⟨_, _, _, rfl, rfl, rfl, rfl, rfl, rfl, rfl, rfl, rfl, rfl, rfl, rfl, rfl, rfl, rfl⟩ := h
        exact ⟨fun _ => e1, fun z => absurd c z, rfl, rfl, rfl, rfl, rfl, rfl, rfl, rfl, rfl, rfl, rfl, rfl, rfl, rfl⟩
      · replace h := zk_f c2 (zk_f c2 h)
        simp only [Option.some.injEq, Prod.mk.injEq] at h
        obtain ⟨_, _, _, rfl, rfl, rfl, rfl, rfl, rfl, rfl, rfl, rfl, rfl, rfl, rfl, rfl, rfl, rfl⟩ := h
        exact ⟨fun _ => e1, fun z => absurd c z, rfl, rfl, rfl, rfl, rfl, rfl, rfl, rfl, rfl, rfl, rfl, rfl, rfl, rfl⟩
    · replace h := zk_f c h
      unfold B_X8_read_61 at h
      replace h := zk_o1 h
      obtain ⟨u, e1, h⟩ := h
      by_cases c2 : 0 ≤ u
      · replace h := zk_t c2 (zk_t c2 h)
        simp only [Option.some.injEq, Prod.mk.injEq] at h
        obtain ⟨_, _, _, rfl, rfl, rfl, rfl, rfl, rfl, rfl, rfl, rfl, rfl, rfl, rfl, rfl, rfl, rfl⟩ := h
        exact ⟨fun z => absurd z c, fun _ => e1, rfl, rfl, rfl, rfl, rfl, rfl, rfl, rfl, rfl, rfl, rfl, rfl, rfl, rfl⟩
      · replace h := zk_f c2 (zk_f c2 h)
        simp only [Option.some.injEq, Prod.mk.injEq] at h
        obtain ⟨_, _, _, rfl, rfl, rfl, rfl, rfl, rfl, rfl, rfl, rfl, rfl, rfl, rfl, rfl, rfl, rfl⟩ := h
        exact ⟨fun z => absurd z c, fun _ => e1, rfl, rfl, rfl, rfl, rfl, rfl, rfl, rfl, rfl, rfl, rfl, rfl, rfl, rfl⟩
  obtain ⟨j1, j2, rfl, rfl, rfl, rfl, rfl, rfl, rfl, rfl, rfl, rfl, rfl, rfl, rfl, rfl⟩ := hj
  have hj := And.intro j1 j2
  have hp0 := PB_0 hT
  unfold f_X12_readSuit at k
  rcases s1_sides hT hR m1_neg hp0 a1 k with ⟨q1, q2, q2r⟩ | ⟨q1, q2, q3, k⟩
  · have e2 := fq_claims q1 a2
    dsimp only at e2
    have q1b : 0 ≤ (u_9).toInt := by rw [e2]; exact q1
    have e3 := fq_points q1b a3
    dsimp only at e3
    have q1c : 0 ≤ (u_16).toInt := by rw [e3]; exact q1b
    have e4 := fq_end q1c a4
    dsimp only at e4
    have q1d : 0 ≤ (u_24).toInt := by rw [e4]; exact q1c
    have e5 := fq_time q1d a5
    dsimp only at e5
    have q1e : 0 ≤ (u_31).toInt := by rw [e5]; exact q1d
    have e6 := cb_judgeP_of q1e hj
    refine ⟨by rw [q2, e6, e5, e4, e3, e2], q2r, fun z => ?_⟩
    rw [e6] at z
    omega
  · unfold M68c at k
    replace k := zk_o4 k
    obtain ⟨v1_, v2_, v3_, v4_, b1_, k⟩ := k
    unfold f_X8_readClaims B_X8_readClaims_0 at a2
    unfold f_X12_readClaims at b1_
    rw [q1] at a2
    rcases s2_loop hT hR m1_neg hx hcc _ _ _ _ _ _ _ _ _ _ _ q2 hI0 a2 b1_ with ⟨r1, r2, r6⟩ | ⟨r1, r2, r3, r4, r5, r6⟩
    · dsimp only at r1 r2
      have e3 := fq_points r1 a3
      dsimp only at e3
      have q1c : 0 ≤ (u_16).toInt := by rw [e3]; exact r1
      have e4 := fq_end q1c a4
      dsimp only at e4
      have q1d : 0 ≤ (u_24).toInt := by rw [e4]; exact q1c
      have e5 := fq_time q1d a5
      dsimp only at e5
      have q1e : 0 ≤ (u_31).toInt := by rw [e5]; exact q1d
      have e6 := cb_judgeP_of q1e hj
      obtain ⟨e7, e7b⟩ := fm_83 (by rw [r2]; exact r1) k
      refine ⟨by rw [e7, r2, e6, e5, e4, e3], by rw [e7b]; exact ⟨fun j hj => upd_n hj, fun j hj => upd_n hj, fun _ _ => rfl, fun _ _ => rfl, fun _ _ => rfl, fun _ _ => rfl, r6.1, fun _ _ => rfl, r6.2, fun _ _ => rfl⟩, fun z => ?_⟩
      rw [e6] at z
      omega
    · dsimp only at r1 r2 r3 r4 r5 r6
      rw [r2, r3] at k
      unfold f_X8_readPoints B_X8_readPoints_0 at a3
      rw [r1] at a3
      rcases s3_loop hT hR m1_neg hx _ _ _ _ _ _ _ _ _ _ _ _ _ r4 CG_0 hP0 a3 k with ⟨t1, t2, t2r⟩ | ⟨t1, t2, pi2, t3, t4, g, k⟩
      · dsimp only at t1 t2
        have e4 := fq_end t1 a4
        dsimp only at e4
        have q1d : 0 ≤ (u_24).toInt := by rw [e4]; exact t1
        have e5 := fq_time q1d a5
        dsimp only at e5
        have q1e : 0 ≤ (u_31).toInt := by rw [e5]; exact q1d
        have e6 := cb_judgeP_of q1e hj
        refine ⟨by rw [t2, e6, e5, e4], RFR_rt t2r ⟨fun j hj => upd_n hj, fun j hj => upd_n hj, fun _ _ => rfl, fun _ _ => rfl, fun _ _ => rfl, fun _ _ => rfl, r6.1, fun _ _ => rfl, r6.2, fun _ _ => rfl⟩, fun z => ?_⟩
        rw [e6] at z
        omega
      · dsimp only at t1 t2 t3 t4
        rw [t1] at a4
        rcases s4_end hT hR m1_neg t2 r5.2.1 r5.1 a4 k with ⟨y1, y2, y2r⟩ | ⟨y1, y2, y3, y4, fm, y5, k⟩
        · have e5 := fq_time y1 a5
          dsimp only at e5
          have q1e : 0 ≤ (u_31).toInt := by rw [e5]; exact y1
          have e6 := cb_judgeP_of q1e hj
          refine ⟨by rw [y2, e6, e5], RFR_rt y2r ⟨fun j hj => upd_n hj, fun j hj => upd_n hj, fun _ _ => rfl, fun _ _ => rfl, fun _ _ => rfl, fun _ _ => rfl, r6.1, fun _ _ => rfl, r6.2, t4⟩, fun z => ?_⟩
          rw [e6] at z
          omega
        · rw [y1] at a5
          obtain ⟨x1_, xr_, x2_⟩ := s4_time hT hR m1_neg y2 a5 hj k
          have hfm : ∀ j, j ≠ x1.toInt.toNat → fm j = mod_firstMany j := by
            intro j hj2
            by_cases c6 : u_25 = 6
            · rw [y5.1 c6]; exact (upd_n hj2).trans (upd_n hj2)
            · rw [y5.2 c6]; exact upd_n hj2
          refine ⟨x1_, RFR_rt xr_ ⟨fun j hj => upd_n hj, fun j hj => upd_n hj, fun j hj => upd_n hj, fun j hj => upd_n hj, fun _ _ => rfl, fun _ _ => rfl, r6.1, hfm, r6.2, t4⟩, fun z => ?_⟩
          obtain ⟨z1, z2, z3⟩ := x2_ z
          exact ⟨z1, q3, y3, y4, z2, _, _, pi2, fm, r5, r6, t3, t4, y5, z3⟩
theorem z32N_1 : (-1 : Int32).toInt = -1 := by decide
theorem z32N_2 : (-2 : Int32).toInt = -2 := by decide
theorem z32N_3 : (-3 : Int32).toInt = -3 := by decide
theorem z32N_4 : (-4 : Int32).toInt = -4 := by decide
theorem z32N_5 : (-5 : Int32).toInt = -5 := by decide
theorem z32N_6 : (-6 : Int32).toInt = -6 := by decide
theorem z32N_7 : (-7 : Int32).toInt = -7 := by decide
theorem z32N_8 : (-8 : Int32).toInt = -8 := by decide
theorem z32N_9 : (-9 : Int32).toInt = -9 := by decide
theorem z32N_10 : (-10 : Int32).toInt = -10 := by decide
theorem z32N_11 : (-11 : Int32).toInt = -11 := by decide
theorem z32N_12 : (-12 : Int32).toInt = -12 := by decide
theorem z32N_13 : (-13 : Int32).toInt = -13 := by decide
theorem z32N_14 : (-14 : Int32).toInt = -14 := by decide
theorem z32N_15 : (-15 : Int32).toInt = -15 := by decide
theorem z32N_16 : (-16 : Int32).toInt = -16 := by decide
theorem z32N_17 : (-17 : Int32).toInt = -17 := by decide
theorem z32N_18 : (-18 : Int32).toInt = -18 := by decide
theorem z32N_19 : (-19 : Int32).toInt = -19 := by decide
theorem z32N_20 : (-20 : Int32).toInt = -20 := by decide
theorem z32N_21 : (-21 : Int32).toInt = -21 := by decide
theorem z32N_22 : (-22 : Int32).toInt = -22 := by decide
theorem z32N_23 : (-23 : Int32).toInt = -23 := by decide
theorem z32N_24 : (-24 : Int32).toInt = -24 := by decide
theorem z32N_25 : (-25 : Int32).toInt = -25 := by decide
theorem z32N_26 : (-26 : Int32).toInt = -26 := by decide
theorem z32N_27 : (-27 : Int32).toInt = -27 := by decide
theorem z32N_28 : (-28 : Int32).toInt = -28 := by decide
theorem z32N_29 : (-29 : Int32).toInt = -29 := by decide
theorem z32N_30 : (-30 : Int32).toInt = -30 := by decide
theorem z32N_31 : (-31 : Int32).toInt = -31 := by decide
theorem z32N_32 : (-32 : Int32).toInt = -32 := by decide
theorem z32N_33 : (-33 : Int32).toInt = -33 := by decide
theorem z32N_34 : (-34 : Int32).toInt = -34 := by decide
theorem z32N_35 : (-35 : Int32).toInt = -35 := by decide
theorem z32N_36 : (-36 : Int32).toInt = -36 := by decide
theorem z32N_37 : (-37 : Int32).toInt = -37 := by decide
theorem z32N_38 : (-38 : Int32).toInt = -38 := by decide
theorem z32N_39 : (-39 : Int32).toInt = -39 := by decide
theorem z32N_40 : (-40 : Int32).toInt = -40 := by decide
theorem z32N_41 : (-41 : Int32).toInt = -41 := by decide
theorem z32N_42 : (-42 : Int32).toInt = -42 := by decide
theorem z32N_43 : (-43 : Int32).toInt = -43 := by decide
theorem z32N_44 : (-44 : Int32).toInt = -44 := by decide
theorem z32N_45 : (-45 : Int32).toInt = -45 := by decide
theorem z32N_46 : (-46 : Int32).toInt = -46 := by decide
theorem z32N_47 : (-47 : Int32).toInt = -47 := by decide
theorem z32N_48 : (-48 : Int32).toInt = -48 := by decide
theorem z32N_49 : (-49 : Int32).toInt = -49 := by decide
theorem z32N_50 : (-50 : Int32).toInt = -50 := by decide
theorem z32N_51 : (-51 : Int32).toInt = -51 := by decide
theorem z32N_52 : (-52 : Int32).toInt = -52 := by decide
theorem z32N_53 : (-53 : Int32).toInt = -53 := by decide
theorem z32N_54 : (-54 : Int32).toInt = -54 := by decide
theorem z32N_55 : (-55 : Int32).toInt = -55 := by decide
theorem z32N_56 : (-56 : Int32).toInt = -56 := by decide
theorem z32N_57 : (-57 : Int32).toInt = -57 := by decide
theorem z32N_58 : (-58 : Int32).toInt = -58 := by decide
theorem z32N_59 : (-59 : Int32).toInt = -59 := by decide
theorem z32N_60 : (-60 : Int32).toInt = -60 := by decide
theorem z32N_61 : (-61 : Int32).toInt = -61 := by decide
theorem z32N_62 : (-62 : Int32).toInt = -62 := by decide
theorem z32N_63 : (-63 : Int32).toInt = -63 := by decide
theorem z32N_64 : (-64 : Int32).toInt = -64 := by decide
theorem z32N_65 : (-65 : Int32).toInt = -65 := by decide
theorem z32N_66 : (-66 : Int32).toInt = -66 := by decide
theorem z32N_67 : (-67 : Int32).toInt = -67 := by decide
theorem z32N_68 : (-68 : Int32).toInt = -68 := by decide
theorem z32N_69 : (-69 : Int32).toInt = -69 := by decide
theorem z32N_70 : (-70 : Int32).toInt = -70 := by decide
theorem z32N_71 : (-71 : Int32).toInt = -71 := by decide
theorem z32N_72 : (-72 : Int32).toInt = -72 := by decide
theorem z32N_73 : (-73 : Int32).toInt = -73 := by decide
theorem z32N_74 : (-74 : Int32).toInt = -74 := by decide
theorem z32N_75 : (-75 : Int32).toInt = -75 := by decide
theorem z32N_76 : (-76 : Int32).toInt = -76 := by decide
theorem z32N_77 : (-77 : Int32).toInt = -77 := by decide
theorem z32N_78 : (-78 : Int32).toInt = -78 := by decide
theorem z32N_79 : (-79 : Int32).toInt = -79 := by decide
theorem z32N_80 : (-80 : Int32).toInt = -80 := by decide
theorem z32N_81 : (-81 : Int32).toInt = -81 := by decide
theorem z32N_82 : (-82 : Int32).toInt = -82 := by decide
theorem z32N_83 : (-83 : Int32).toInt = -83 := by decide
theorem z32N_84 : (-84 : Int32).toInt = -84 := by decide
theorem z32N_85 : (-85 : Int32).toInt = -85 := by decide
theorem z32N_86 : (-86 : Int32).toInt = -86 := by decide
theorem z32N_87 : (-87 : Int32).toInt = -87 := by decide
theorem z32N_88 : (-88 : Int32).toInt = -88 := by decide
theorem z32N_89 : (-89 : Int32).toInt = -89 := by decide
theorem z32N_90 : (-90 : Int32).toInt = -90 := by decide
theorem z32N_91 : (-91 : Int32).toInt = -91 := by decide
theorem z32N_92 : (-92 : Int32).toInt = -92 := by decide
theorem z32N_93 : (-93 : Int32).toInt = -93 := by decide
theorem z32N_94 : (-94 : Int32).toInt = -94 := by decide
theorem z32N_95 : (-95 : Int32).toInt = -95 := by decide
theorem z32N_96 : (-96 : Int32).toInt = -96 := by decide
theorem z32N_97 : (-97 : Int32).toInt = -97 := by decide
theorem z32N_98 : (-98 : Int32).toInt = -98 := by decide
theorem z32N_99 : (-99 : Int32).toInt = -99 := by decide
theorem z32N_100 : (-100 : Int32).toInt = -100 := by decide
theorem z32N_101 : (-101 : Int32).toInt = -101 := by decide
theorem z32N_102 : (-102 : Int32).toInt = -102 := by decide
theorem z32N_103 : (-103 : Int32).toInt = -103 := by decide
theorem z32N_104 : (-104 : Int32).toInt = -104 := by decide
theorem z32N_105 : (-105 : Int32).toInt = -105 := by decide
theorem z32N_106 : (-106 : Int32).toInt = -106 := by decide
theorem z32N_107 : (-107 : Int32).toInt = -107 := by decide
theorem z32N_108 : (-108 : Int32).toInt = -108 := by decide
theorem z32N_109 : (-109 : Int32).toInt = -109 := by decide
theorem z32N_110 : (-110 : Int32).toInt = -110 := by decide
theorem z32N_111 : (-111 : Int32).toInt = -111 := by decide
theorem z32N_112 : (-112 : Int32).toInt = -112 := by decide
theorem z32N_113 : (-113 : Int32).toInt = -113 := by decide
theorem z32N_114 : (-114 : Int32).toInt = -114 := by decide
theorem z32N_115 : (-115 : Int32).toInt = -115 := by decide
theorem z32N_116 : (-116 : Int32).toInt = -116 := by decide
theorem z32N_117 : (-117 : Int32).toInt = -117 := by decide
theorem z32N_118 : (-118 : Int32).toInt = -118 := by decide
theorem z32N_119 : (-119 : Int32).toInt = -119 := by decide
theorem z32N_120 : (-120 : Int32).toInt = -120 := by decide
theorem z32N_121 : (-121 : Int32).toInt = -121 := by decide
theorem z32N_122 : (-122 : Int32).toInt = -122 := by decide
theorem z32N_123 : (-123 : Int32).toInt = -123 := by decide
theorem z32N_124 : (-124 : Int32).toInt = -124 := by decide
theorem z32N_125 : (-125 : Int32).toInt = -125 := by decide
theorem z32N_126 : (-126 : Int32).toInt = -126 := by decide
theorem z32N_127 : (-127 : Int32).toInt = -127 := by decide
theorem z32N_128 : (-128 : Int32).toInt = -128 := by decide
theorem z32N_129 : (-129 : Int32).toInt = -129 := by decide
theorem pe_b2 {A B C : Type} (a : A) (b : B) (k : A → B → Option C) : zk_b2 (some (a, b)) k = k a b := rfl
theorem TR_up {ts ts2 : Int32} {tb tm : Nat → Int32} (h : TR ts tb tm) (hts : 0 ≤ ts.toInt ∧ ts2.toInt = ts.toInt + 1) {v w : Int32} (hb : (0 ≤ v.toInt ∧ v.toInt ≤ 127 ∧ w = v) ∨ (128 ≤ v.toInt ∧ w.toInt < 0 ∧ -128 ≤ w.toInt)) : TR ts2 (upd tb ts.toNatClampNeg v) (upd tm ts.toNatClampNeg w) := by
  intro k hk
  have e : ts.toNatClampNeg = ts.toInt.toNat := rfl
  unfold upd
  by_cases c : k = ts.toNatClampNeg
  · rw [if_pos c, if_pos c]
    exact hb
  · rw [if_neg c, if_neg c]
    exact h k (by omega)
theorem i32_a {a b : Int32} (h : -100000 ≤ a.toInt ∧ a.toInt ≤ 100000) (h2 : -100000 ≤ b.toInt ∧ b.toInt ≤ 100000) : (a + b).toInt = a.toInt + b.toInt := by
  rw [Int32.toInt_add]
  exact zi_bm2 (by omega) (by omega)
theorem i32_d {a b : Int32} (h : -100000 ≤ a.toInt ∧ a.toInt ≤ 100000) (h2 : -100000 ≤ b.toInt ∧ b.toInt ≤ 100000) : (a - b).toInt = a.toInt - b.toInt := by
  rw [Int32.toInt_sub]
  exact zi_bm2 (by omega) (by omega)
theorem i32_m1 {a : Int32} (h : -100000 ≤ a.toInt ∧ a.toInt ≤ 100000) : (a - 1).toInt = a.toInt - 1 := by
  rw [i32_d h (by decide), z32_1]
theorem tcn {a : Int32} : a.toNatClampNeg = a.toInt.toNat := rfl
theorem TR_00 {ts : Int32} {tb tm : Nat → Int32} (h : ts = 0) : TR ts tb tm := by
  subst h
  intro k hk
  exact absurd hk (by rw [z32_0]; exact Nat.not_lt_zero k)
theorem nar_b (t : Int32) : (vp_nar .byte (t.toInt8.toInt32)).toInt = t.toInt.bmod 256 := by
  show (t.toInt8.toInt32.toInt8.toInt32).toInt = _
  rw [Int8.toInt_toInt32, Int32.toInt_toInt8, Int8.toInt_toInt32, Int32.toInt_toInt8]
  exact Int.bmod_bmod
theorem fd_k {b : BitVec 32} {k : Nat} (hk : k = 0 ∨ k = 8 ∨ k = 16 ∨ k = 24) : ((b >>> k) &&& 255#32).toInt = (b.toNat / 2 ^ k % 256 : Nat) ∧ (b.sshiftRight k).toInt.bmod 256 = ((b.toNat / 2 ^ k % 256 : Nat) : Int).bmod 256 := by
  have h1 : ((b >>> k) &&& 255#32).toNat = b.toNat / 2 ^ k % 256 := by
    rw [BitVec.toNat_and, BitVec.toNat_ushiftRight, Nat.shiftRight_eq_div_pow]
    exact Nat.and_two_pow_sub_one_eq_mod _ 8
  have hb := b.isLt
  constructor
  · rw [BitVec.toInt_eq_toNat_cond, h1]
    rw [if_pos (by omega)]
  · rw [BitVec.toInt_sshiftRight, Int.shiftRight_eq_div_pow, BitVec.toInt_eq_toNat_cond]
    rcases hk with rfl | rfl | rfl | rfl
    · simp only [Int.bmod_def]
      split <;> omega
    · simp only [Int.bmod_def]
      split <;> omega
    · simp only [Int.bmod_def]
      split <;> omega
    · simp only [Int.bmod_def]
      split <;> omega
theorem fd_byte {x2 x3 : Int32} (h : 0 ≤ x3.toInt ∧ x3.toInt ≤ 3) : (0 ≤ (((x2.toUInt32 >>> ((8 * x3).toUInt32 &&& Int32.toUInt32 31)).toInt32) &&& 255).toInt ∧ (((x2.toUInt32 >>> ((8 * x3).toUInt32 &&& Int32.toUInt32 31)).toInt32) &&& 255).toInt ≤ 127 ∧ vp_nar .byte ((x2 >>> ((8 * x3) &&& 31)).toInt8.toInt32) = (((x2.toUInt32 >>> ((8 * x3).toUInt32 &&& Int32.toUInt32 31)).toInt32) &&& 255)) ∨ (128 ≤ (((x2.toUInt32 >>> ((8 * x3).toUInt32 &&& Int32.toUInt32 31)).toInt32) &&& 255).toInt ∧ (vp_nar .byte ((x2 >>> ((8 * x3) &&& 31)).toInt8.toInt32)).toInt < 0 ∧ -128 ≤ (vp_nar .byte ((x2 >>> ((8 * x3) &&& 31)).toInt8.toInt32)).toInt) := by
  have key : ∃ k, (k = 0 ∨ k = 8 ∨ k = 16 ∨ k = 24) ∧ (((x2.toUInt32 >>> ((8 * x3).toUInt32 &&& Int32.toUInt32 31)).toInt32) &&& 255).toInt = ((x2.toBitVec >>> k) &&& 255#32).toInt ∧ (x2 >>> ((8 * x3) &&& 31)).toInt = (x2.toBitVec.sshiftRight k).toInt := by
    have e : x3 = 0 ∨ x3 = 1 ∨ x3 = 2 ∨ x3 = 3 := by
      simp only [i32_e, z32_0, z32_1, z32L_2, z32L_3]
      omega
    rcases e with rfl | rfl | rfl | rfl
    · exact ⟨0, Or.inl rfl, rfl, rfl⟩
    · exact ⟨8, Or.inr (Or.inl rfl), rfl, rfl⟩
    · exact ⟨16, Or.inr (Or.inr (Or.inl rfl)), rfl, rfl⟩
    · exact ⟨24, Or.inr (Or.inr (Or.inr rfl)), rfl, rfl⟩
  obtain ⟨k, hk, e1, e2⟩ := key
  obtain ⟨f1, f2⟩ := fd_k (b := x2.toBitVec) hk
  have e3 := nar_b (x2 >>> ((8 * x3) &&& 31))
  rw [e2, f2] at e3
  rw [f1] at e1
  rw [i32_e, e1, e3]
  simp only [Int.bmod_def]
  by_cases c : x2.toBitVec.toNat / 2 ^ k % 256 < 128
  · refine Or.inl ⟨by omega, by omega, ?_⟩
    rw [if_pos (by omega)]
    omega
  · refine Or.inr ⟨by omega, ?_⟩
    rw [if_neg (by omega)]
    omega
set_option maxHeartbeats 4000000 in
set_option maxRecDepth 20000 in
theorem fd_loop {mod_code : Int32} {court_shoeCount : Int32} {mod_claims : Int32} {at_ : Int32} {f : Int32} {court_suitCount : Int32} {mod_doneMany : Int32} {mod_undoneMany : Int32} {mod_open : Int32} {mod_laid : Int32} {mod_isBoth : Int32} {mod_wished : Int32} {mod_bestMany : Int32} {mod_bestRow : Int32} {mod_ringDigits : Int32} {mod_traces : Int32} {x1 x2 : Int32} (hx : x1.toInt ≤ 4) : ∀ (N M : Nat) (x3 ts : Int32) (tb tm : Nat → Int32) (R : Int32 × Int32 × (Nat → Int32)) (Q : Int32 × Int32 × (Nat → Int32)), 0 ≤ x3.toInt → x3.toInt ≤ x1.toInt → 0 ≤ ts.toInt → ts.toInt + (x1.toInt - x3.toInt) ≤ 120 → TR ts tb tm → G_X11_feed N x1 x2 x3 ts tb = some R → G_X12_feed mod_code court_shoeCount mod_claims at_ f court_suitCount mod_doneMany mod_undoneMany mod_open mod_laid mod_isBoth mod_wished mod_bestMany mod_bestRow mod_ringDigits mod_traces M x1 x2 x3 ts tm = some Q → R.1 = Q.1 ∧ R.2.1 = Q.2.1 ∧ TR R.2.1 R.2.2 Q.2.2 := by
  intro N
  induction N with
  | zero =>
    intro M x3 ts tb tm R Q _ _ _ _ _ h
    cases h
  | succ N ih =>
    intro M x3 ts tb tm R Q h0 h1 h2 h3 hR h k
    cases M with
    | zero => cases k
    | succ M =>
      replace h : B_X11_feed_31 (G_X11_feed N) x1 x2 x3 ts tb = some R := h
      replace k : B_X12_feed_27 (G_X12_feed mod_code court_shoeCount mod_claims at_ f court_suitCount mod_doneMany mod_undoneMany mod_open mod_laid mod_isBoth mod_wished mod_bestMany mod_bestRow mod_ringDigits mod_traces M) mod_code court_shoeCount mod_claims at_ f court_suitCount mod_doneMany mod_undoneMany mod_open mod_laid mod_isBoth mod_wished mod_bestMany mod_bestRow mod_ringDigits mod_traces x1 x2 x3 ts tm = some Q := k
      unfold B_X11_feed_31 at h
      unfold B_X12_feed_27 at k
      by_cases c : x1 ≤ x3
      · replace h := Option.some.inj (zk_t c h)
        replace k := Option.some.inj (zk_t c k)
        subst h
        subst k
        exact ⟨rfl, rfl, hR⟩
      · replace h := zk_f c h
        replace k := zk_f c k
        rw [i32_le] at c
        replace h := zk_o2 h
        obtain ⟨u1, u2, a1, h⟩ := h
        unfold f_X9_add B_X9_add_0 at a1
        have a1 := zk_f (show ¬ (120 : Int32) ≤ ts by rw [i32_le, z32L_120]; omega) a1
        obtain ⟨_, a1⟩ := zk_gd a1
        obtain ⟨f1, e1, a1⟩ := zk_lt a1
        obtain ⟨f2, e2, a1⟩ := zk_lt a1
        subst e1
        subst e2
        have a1 := Option.some.inj a1
        have a2 := (congrArg Prod.fst a1).symm
        have a3 := (congrArg Prod.snd a1).symm
        dsimp only at a2 a3
        subst a2
        subst a3
        replace h := zk_lt h
        obtain ⟨v1, e1, h⟩ := h
        subst e1
        replace k := zk_lt k
        obtain ⟨w1, e1, k⟩ := k
        replace k := zk_gd k
        obtain ⟨_, k⟩ := k
        replace k := zk_lt k
        obtain ⟨w2, e2, k⟩ := k
        replace k := zk_lt k
        obtain ⟨w3, e3, k⟩ := k
        replace k := zk_lt k
        obtain ⟨w4, e4, k⟩ := k
        subst e1
        subst e2
        subst e3
        subst e4
        have s3 := i32_s (a := x3) (by omega)
        have s4 := i32_s (a := ts) (by omega)
        exact ih M _ _ _ _ R Q (by omega) (by omega) (by omega) (by omega) (TR_up hR ⟨h2, s4⟩ (fd_byte ⟨h0, by omega⟩)) h k
set_option maxHeartbeats 4000000 in
set_option maxRecDepth 20000 in
theorem pw_feed {mod_code : Int32} {court_shoeCount : Int32} {mod_claims : Int32} {ts : Int32} {at_ : Int32} {f : Int32} {court_suitCount : Int32} {mod_doneMany : Int32} {mod_undoneMany : Int32} {mod_open : Int32} {mod_laid : Int32} {mod_isBoth : Int32} {mod_wished : Int32} {mod_bestMany : Int32} {mod_bestRow : Int32} {mod_ringDigits : Int32} {mod_traces : Int32} {tm : Nat → Int32} {tb : Nat → Int32} {n m : Nat} {x1 x2 : Int32} (hT : TS ts) (hR : TR ts tb tm) {R : Int32 × Int32 × (Nat → Int32)} {Q : Int32 × Int32 × (Nat → Int32)} (h : f_X11_feed n x1 x2 ts tb = some R) (k : f_X12_feed m x1 x2 mod_code court_shoeCount mod_claims ts at_ f court_suitCount mod_doneMany mod_undoneMany mod_open mod_laid mod_isBoth mod_wished mod_bestMany mod_bestRow mod_ringDigits mod_traces tm = some Q) : R.1 = Q.1 ∧ R.2.1 = Q.2.1 ∧ TR R.2.1 R.2.2 Q.2.2 := by
  unfold f_X11_feed at h
  unfold f_X12_feed at k
  unfold B_X11_feed_0 at h
  by_cases cc1 : x1 < (1 : Int32)
  · replace h := zk_t cc1 h
    have cc1n := cc1
    (try simp only [i32_lt, i32_le, i32_e, z32_0, z32_1] at cc1n)
    first
    | (exfalso; omega)
    | unfold B_X12_feed_0 at k
      replace k := zk_o2 k
      obtain ⟨mv1, mv2, mh3, k⟩ := k
      unfold f_X12_in at mh3
      unfold B_X12_in_0 at mh3
      have mh3 := zk_t cc1 mh3
      simp only [Option.some.injEq, Prod.mk.injEq] at mh3
      obtain ⟨rfl, _⟩ := mh3
      replace k := zk_t rfl k
      replace h := Option.some.inj h
      replace k := Option.some.inj k
      subst h
      subst k
      try dsimp only
      exact ⟨rfl, rfl, hR⟩
  · replace h := zk_f cc1 h
    have cc1n := cc1
    (try simp only [i32_lt, i32_le, i32_e, z32_0, z32_1] at cc1n)
    first
    | (exfalso; omega)
    | by_cases cc2 : x1 ≤ (4 : Int32)
      · replace h := zk_t cc2 h
        have cc2n := cc2
        (try simp only [i32_lt, i32_le, i32_e, z32_0, z32_1, z32L_4] at cc2n)
        first
        | (exfalso; omega)
        | by_cases cc3 : (ts + x1) ≤ (120 : Int32)
          · replace h := zk_t cc3 h
            have cc3n := cc3
            (try simp only [i32_lt, i32_le, i32_e, z32_0, z32_1, z32L_120] at cc3n)
            first
            | (exfalso; omega)
            | have hs := i32_a (a := ts) (b := x1) (by have := hT.1; have := hT.2; omega) (by omega)
              have hT2 := hT.2
              unfold B_X12_feed_0 at k
              replace k := zk_o2 k
              obtain ⟨mv4, mv5, mh6, k⟩ := k
              unfold f_X12_in at mh6
              unfold B_X12_in_0 at mh6
              have mh6 := zk_f cc1 mh6
              have mh6 := zk_f (by (try simp only [i32_lt, i32_le, i32_e, z32_0, z32_1, z32L_4]); omega) mh6
              simp only [Option.some.injEq, Prod.mk.injEq] at mh6
              obtain ⟨rfl, _⟩ := mh6
              replace k := zk_f (by decide) k
              replace k := zk_t cc3 k
              exact fd_loop (by omega) _ _ _ _ _ _ R Q (by decide) (by rw [z32_0]; omega) hT.1 (by rw [z32_0]; omega) hR h k
          · replace h := zk_f cc3 h
            have cc3n := cc3
            (try simp only [i32_lt, i32_le, i32_e, z32_0, z32_1, z32L_120] at cc3n)
            first
            | (exfalso; omega)
            | unfold B_X12_feed_0 at k
              replace k := zk_o2 k
              obtain ⟨mv7, mv8, mh9, k⟩ := k
              unfold f_X12_in at mh9
              unfold B_X12_in_0 at mh9
              have mh9 := zk_f cc1 mh9
              have mh9 := zk_f (by (try simp only [i32_lt, i32_le, i32_e, z32_0, z32_1, z32L_4]); omega) mh9
              simp only [Option.some.injEq, Prod.mk.injEq] at mh9
              obtain ⟨rfl, _⟩ := mh9
              replace k := zk_f (by decide) k
              replace k := zk_f cc3 k
              replace h := Option.some.inj h
              replace k := Option.some.inj k
              subst h
              subst k
              try dsimp only
              exact ⟨rfl, rfl, hR⟩
      · replace h := zk_f cc2 h
        have cc2n := cc2
        (try simp only [i32_lt, i32_le, i32_e, z32_0, z32_1, z32L_4] at cc2n)
        first
        | (exfalso; omega)
        | unfold B_X12_feed_0 at k
          replace k := zk_o2 k
          obtain ⟨mv10, mv11, mh12, k⟩ := k
          unfold f_X12_in at mh12
          unfold B_X12_in_0 at mh12
          have mh12 := zk_f cc1 mh12
          have mh12 := zk_t (by (try simp only [i32_lt, i32_le, i32_e, z32_0, z32_1, z32L_4]); omega) mh12
          simp only [Option.some.injEq, Prod.mk.injEq] at mh12
          obtain ⟨rfl, _⟩ := mh12
          replace k := zk_t rfl k
          replace h := Option.some.inj h
          replace k := Option.some.inj k
          subst h
          subst k
          try dsimp only
          exact ⟨rfl, rfl, hR⟩
theorem lw_mod (x1 : Int32) : 0 ≤ x1.toInt → 0 ≤ (x1 - x1 / 10 * 10).toInt ∧ (x1 - x1 / 10 * 10).toInt ≤ 9 := by
  intro h
  have e := zs_dv10 x1 h
  have e10 : (10 : Int32).toInt = 10 := by decide
  have hlt := Int32.toInt_lt x1
  rw [Int32.toInt_sub, Int32.toInt_mul, e, e10]
  rw [zi_bm2 (e := x1.toInt / 10 * 10) (by omega) (by omega)]
  rw [zi_bm2 (by omega) (by omega)]
  omega
set_option maxHeartbeats 4000000 in
set_option maxRecDepth 20000 in
theorem lt219 {mod_code : Int32} {court_shoeCount : Int32} {mod_claims : Int32} {court_suitCount : Int32} {mod_doneMany : Int32} {mod_undoneMany : Int32} {mod_isBoth : Int32} {mod_wished : Int32} {mod_bestMany : Int32} {mod_bestRow : Int32} {mod_ringDigits : Int32} {mod_traces : Int32} {tm : Nat → Int32}  : ∀ (n : Nat) (x2 : Int32) (x3 : Int32) (ts : Int32) (at_ : Int32) (f : Int32) (mod_open : Int32) (mod_laid : Int32) (mod_act : Nat → Int32) (mod_with : Nat → Int32) (mod_lineMany : Nat → Int32) (mod_testEnd : Nat → Int32) (mod_lineEnd : Nat → Int32) (R : Int32 × Int32 × Int32 × Int32 × Int32 × Int32 × (Nat → Int32) × (Nat → Int32) × (Nat → Int32) × (Nat → Int32) × (Nat → Int32)), (G_X12_law mod_code court_shoeCount mod_claims court_suitCount mod_doneMany mod_undoneMany mod_isBoth mod_wished mod_bestMany mod_bestRow mod_ringDigits mod_traces tm n).2.2 x2 x3 ts at_ f mod_open mod_laid mod_act mod_with mod_lineMany mod_testEnd mod_lineEnd = some R → R.2.1 = ts := by
  intro n
  induction n with
  | zero =>
    intro x2 x3 ts at_ f mod_open mod_laid mod_act mod_with mod_lineMany mod_testEnd mod_lineEnd R h
    cases h
  | succ n ih =>
    intro x2 x3 ts at_ f mod_open mod_laid mod_act mod_with mod_lineMany mod_testEnd mod_lineEnd R h
    replace h : B_X12_law_219 ((G_X12_law mod_code court_shoeCount mod_claims court_suitCount mod_doneMany mod_undoneMany mod_isBoth mod_wished mod_bestMany mod_bestRow mod_ringDigits mod_traces tm n).1) ((G_X12_law mod_code court_shoeCount mod_claims court_suitCount mod_doneMany mod_undoneMany mod_isBoth mod_wished mod_bestMany mod_bestRow mod_ringDigits mod_traces tm n).2.1) ((G_X12_law mod_code court_shoeCount mod_claims court_suitCount mod_doneMany mod_undoneMany mod_isBoth mod_wished mod_bestMany mod_bestRow mod_ringDigits mod_traces tm n).2.2) mod_code court_shoeCount mod_claims court_suitCount mod_doneMany mod_undoneMany mod_isBoth mod_wished mod_bestMany mod_bestRow mod_ringDigits mod_traces tm x2 x3 ts at_ f mod_open mod_laid mod_act mod_with mod_lineMany mod_testEnd mod_lineEnd = some R := h
    unfold B_X12_law_219 at h
    replace h := zk_gd h
    obtain ⟨_, h⟩ := h
    by_cases cc1 : (mod_lineMany x2.toNatClampNeg) ≤ x3
    · replace h := zk_t cc1 h
      have cc1n := cc1
      (try simp only [i32_lt, i32_le, i32_e, z32_0, z32_1] at cc1n)
      exact (congrArg (fun z => z.2.1) (Option.some.inj h)).symm
    · replace h := zk_f cc1 h
      have cc1n := cc1
      (try simp only [i32_lt, i32_le, i32_e, z32_0, z32_1] at cc1n)
      replace h := zk_gd h
      obtain ⟨_, h⟩ := h
      replace h := zk_lt h
      obtain ⟨cv2, ce3, h⟩ := h
      subst ce3
      replace h := zk_gd h
      obtain ⟨_, h⟩ := h
      replace h := zk_lt h
      obtain ⟨cv4, ce5, h⟩ := h
      subst ce5
      replace h := zk_gd h
      obtain ⟨_, h⟩ := h
      replace h := zk_lt h
      obtain ⟨cv6, ce7, h⟩ := h
      subst ce7
      replace h := zk_gd h
      obtain ⟨_, h⟩ := h
      replace h := zk_lt h
      obtain ⟨cv8, ce9, h⟩ := h
      subst ce9
      replace h := zk_lt h
      obtain ⟨cv10, ce11, h⟩ := h
      subst ce11
      exact ih _ _ _ _ _ _ _ _ _ _ _ _ R h
set_option maxHeartbeats 4000000 in
set_option maxRecDepth 20000 in
theorem lt146 {mod_code : Int32} {court_shoeCount : Int32} {mod_claims : Int32} {court_suitCount : Int32} {mod_doneMany : Int32} {mod_undoneMany : Int32} {mod_isBoth : Int32} {mod_wished : Int32} {mod_bestMany : Int32} {mod_bestRow : Int32} {mod_ringDigits : Int32} {mod_traces : Int32} {tm : Nat → Int32}  : ∀ (n : Nat) (x2 : Int32) (x3 : Int32) (ts : Int32) (at_ : Int32) (f : Int32) (mod_open : Int32) (mod_laid : Int32) (mod_act : Nat → Int32) (mod_with : Nat → Int32) (mod_lineMany : Nat → Int32) (mod_testEnd : Nat → Int32) (mod_lineEnd : Nat → Int32) (R : Int32 × Int32 × Int32 × Int32 × Int32 × Int32 × (Nat → Int32) × (Nat → Int32) × (Nat → Int32) × (Nat → Int32) × (Nat → Int32)), (G_X12_law mod_code court_shoeCount mod_claims court_suitCount mod_doneMany mod_undoneMany mod_isBoth mod_wished mod_bestMany mod_bestRow mod_ringDigits mod_traces tm n).2.1 x2 x3 ts at_ f mod_open mod_laid mod_act mod_with mod_lineMany mod_testEnd mod_lineEnd = some R → R.2.1 = ts := by
  intro n
  induction n with
  | zero =>
    intro x2 x3 ts at_ f mod_open mod_laid mod_act mod_with mod_lineMany mod_testEnd mod_lineEnd R h
    cases h
  | succ n ih =>
    intro x2 x3 ts at_ f mod_open mod_laid mod_act mod_with mod_lineMany mod_testEnd mod_lineEnd R h
    replace h : B_X12_law_146 ((G_X12_law mod_code court_shoeCount mod_claims court_suitCount mod_doneMany mod_undoneMany mod_isBoth mod_wished mod_bestMany mod_bestRow mod_ringDigits mod_traces tm n).1) ((G_X12_law mod_code court_shoeCount mod_claims court_suitCount mod_doneMany mod_undoneMany mod_isBoth mod_wished mod_bestMany mod_bestRow mod_ringDigits mod_traces tm n).2.1) ((G_X12_law mod_code court_shoeCount mod_claims court_suitCount mod_doneMany mod_undoneMany mod_isBoth mod_wished mod_bestMany mod_bestRow mod_ringDigits mod_traces tm n).2.2) mod_code court_shoeCount mod_claims court_suitCount mod_doneMany mod_undoneMany mod_isBoth mod_wished mod_bestMany mod_bestRow mod_ringDigits mod_traces tm x2 x3 ts at_ f mod_open mod_laid mod_act mod_with mod_lineMany mod_testEnd mod_lineEnd = some R := h
    unfold B_X12_law_146 at h
    by_cases cc1 : mod_laid ≤ x3
    · replace h := zk_t cc1 h
      have cc1n := cc1
      (try simp only [i32_lt, i32_le, i32_e, z32_0, z32_1] at cc1n)
      replace h := zk_lt h
      obtain ⟨cv2, ce3, h⟩ := h
      subst ce3
      replace h := zk_gd h
      obtain ⟨_, h⟩ := h
      replace h := zk_lt h
      obtain ⟨cv4, ce5, h⟩ := h
      subst ce5
      exact lt219 n _ _ _ _ _ _ _ _ _ _ _ _ R h
    · replace h := zk_f cc1 h
      have cc1n := cc1
      (try simp only [i32_lt, i32_le, i32_e, z32_0, z32_1] at cc1n)
      replace h := zk_gd h
      obtain ⟨_, h⟩ := h
      replace h := zk_lt h
      obtain ⟨cv6, ce7, h⟩ := h
      subst ce7
      replace h := zk_gd h
      obtain ⟨_, h⟩ := h
      replace h := zk_lt h
      obtain ⟨cv8, ce9, h⟩ := h
      subst ce9
      replace h := zk_gd h
      obtain ⟨_, h⟩ := h
      replace h := zk_lt h
      obtain ⟨cv10, ce11, h⟩ := h
      subst ce11
      replace h := zk_gd h
      obtain ⟨_, h⟩ := h
      replace h := zk_lt h
      obtain ⟨cv12, ce13, h⟩ := h
      subst ce13
      replace h := zk_lt h
      obtain ⟨cv14, ce15, h⟩ := h
      subst ce15
      exact ih _ _ _ _ _ _ _ _ _ _ _ _ R h

set_option maxHeartbeats 4000000 in
set_option maxRecDepth 20000 in
theorem lt56 {mod_code : Int32} {court_shoeCount : Int32} {mod_claims : Int32} {court_suitCount : Int32} {mod_doneMany : Int32} {mod_undoneMany : Int32} {mod_isBoth : Int32} {mod_wished : Int32} {mod_bestMany : Int32} {mod_bestRow : Int32} {mod_ringDigits : Int32} {mod_traces : Int32} {tm : Nat → Int32}  : ∀ (n : Nat) (x1 : Int32) (ts : Int32) (at_ : Int32) (f : Int32) (mod_open : Int32) (mod_laid : Int32) (mod_act : Nat → Int32) (mod_with : Nat → Int32) (mod_lineMany : Nat → Int32) (mod_testEnd : Nat → Int32) (mod_lineEnd : Nat → Int32) (R : Int32 × Int32 × Int32 × Int32 × Int32 × Int32 × (Nat → Int32) × (Nat → Int32) × (Nat → Int32) × (Nat → Int32) × (Nat → Int32)), (G_X12_law mod_code court_shoeCount mod_claims court_suitCount mod_doneMany mod_undoneMany mod_isBoth mod_wished mod_bestMany mod_bestRow mod_ringDigits mod_traces tm n).1 x1 ts at_ f mod_open mod_laid mod_act mod_with mod_lineMany mod_testEnd mod_lineEnd = some R → R.2.1 = 0 := by
  intro n
  induction n with
  | zero =>
    intro x1 ts at_ f mod_open mod_laid mod_act mod_with mod_lineMany mod_testEnd mod_lineEnd R h
    cases h
  | succ n ih =>
    intro x1 ts at_ f mod_open mod_laid mod_act mod_with mod_lineMany mod_testEnd mod_lineEnd R h
    replace h : B_X12_law_56 ((G_X12_law mod_code court_shoeCount mod_claims court_suitCount mod_doneMany mod_undoneMany mod_isBoth mod_wished mod_bestMany mod_bestRow mod_ringDigits mod_traces tm n).1) ((G_X12_law mod_code court_shoeCount mod_claims court_suitCount mod_doneMany mod_undoneMany mod_isBoth mod_wished mod_bestMany mod_bestRow mod_ringDigits mod_traces tm n).2.1) ((G_X12_law mod_code court_shoeCount mod_claims court_suitCount mod_doneMany mod_undoneMany mod_isBoth mod_wished mod_bestMany mod_bestRow mod_ringDigits mod_traces tm n).2.2) mod_code court_shoeCount mod_claims court_suitCount mod_doneMany mod_undoneMany mod_isBoth mod_wished mod_bestMany mod_bestRow mod_ringDigits mod_traces tm x1 ts at_ f mod_open mod_laid mod_act mod_with mod_lineMany mod_testEnd mod_lineEnd = some R := h
    unfold B_X12_law_56 at h
    by_cases cc1 : 0 ≤ f
    · replace h := zk_t cc1 h
      have cc1n := cc1
      (try simp only [i32_lt, i32_le, i32_e, z32_0, z32_1] at cc1n)
      unfold B_X12_law_89 at h
      replace h := zk_t cc1 h
      unfold B_X12_law_111 at h
      replace h := zk_f (by (try simp only [i32_lt, i32_le, i32_e, z32_0, z32_1]); omega) h
      exact (congrArg (fun z => z.2.1) (Option.some.inj h)).symm
    · replace h := zk_f cc1 h
      have cc1n := cc1
      (try simp only [i32_lt, i32_le, i32_e, z32_0, z32_1] at cc1n)
      replace h := zk_o2 h
      obtain ⟨cv2, cv3, ch4, h⟩ := h
      skip
      by_cases cc5 : cv2 = (59 : Int32)
      · replace h := zk_t cc5 h
        have cc5n := cc5
        (try simp only [i32_lt, i32_le, i32_e, z32_0, z32_1, z32L_59] at cc5n)
        replace h := zk_lt h
        obtain ⟨cv6, ce7, h⟩ := h
        subst ce7
        replace h := zk_o9 h
        obtain ⟨cv8, cv9, cv10, cv11, cv12, cv13, cv14, cv15, cv16, ch17, h⟩ := h
        skip
        exact ih _ _ _ _ _ _ _ _ _ _ _ R h
      · replace h := zk_f cc5 h
        have cc5n := cc5
        (try simp only [i32_lt, i32_le, i32_e, z32_0, z32_1, z32L_59] at cc5n)
        unfold B_X12_law_89 at h
        replace h := zk_f cc1 h
        by_cases cc18 : ts ≤ at_
        · replace h := zk_t cc18 h
          have cc18n := cc18
          (try simp only [i32_lt, i32_le, i32_e, z32_0, z32_1] at cc18n)
          unfold B_X12_law_111 at h
          replace h := zk_t (by (try simp only [i32_lt, i32_le, i32_e, z32_0, z32_1]); omega) h
          replace h := zk_lt h
          obtain ⟨cv19, ce20, h⟩ := h
          subst ce20
          exact lt146 n _ _ _ _ _ _ _ _ _ _ _ _ R h
        · replace h := zk_f cc18 h
          have cc18n := cc18
          (try simp only [i32_lt, i32_le, i32_e, z32_0, z32_1] at cc18n)
          replace h := zk_o1 h
          obtain ⟨cv21, ch22, h⟩ := h
          skip
          unfold B_X12_law_111 at h
          by_cases cc23 : cv21 < 0
          · replace h := zk_t cc23 h
            have cc23n := cc23
            (try simp only [i32_lt, i32_le, i32_e, z32_0, z32_1] at cc23n)
            replace h := zk_lt h
            obtain ⟨cv24, ce25, h⟩ := h
            subst ce25
            exact lt146 n _ _ _ _ _ _ _ _ _ _ _ _ R h
          · replace h := zk_f cc23 h
            have cc23n := cc23
            (try simp only [i32_lt, i32_le, i32_e, z32_0, z32_1] at cc23n)
            exact (congrArg (fun z => z.2.1) (Option.some.inj h)).symm
set_option maxHeartbeats 4000000 in
set_option maxRecDepth 20000 in
theorem lt_law {mod_code : Int32} {court_shoeCount : Int32} {mod_claims : Int32} {ts : Int32} {at_ : Int32} {f : Int32} {court_suitCount : Int32} {mod_doneMany : Int32} {mod_undoneMany : Int32} {mod_open : Int32} {mod_laid : Int32} {mod_isBoth : Int32} {mod_wished : Int32} {mod_bestMany : Int32} {mod_bestRow : Int32} {mod_ringDigits : Int32} {mod_traces : Int32} {tm : Nat → Int32} {mod_act : Nat → Int32} {mod_with : Nat → Int32} {mod_lineMany : Nat → Int32} {mod_testEnd : Nat → Int32} {mod_lineEnd : Nat → Int32} {n : Nat} {x1 : Int32} {R : Int32 × Int32 × Int32 × Int32 × Int32 × Int32 × (Nat → Int32) × (Nat → Int32) × (Nat → Int32) × (Nat → Int32) × (Nat → Int32)} (h : f_X12_law n x1 mod_code court_shoeCount mod_claims ts at_ f court_suitCount mod_doneMany mod_undoneMany mod_open mod_laid mod_isBoth mod_wished mod_bestMany mod_bestRow mod_ringDigits mod_traces tm mod_act mod_with mod_lineMany mod_testEnd mod_lineEnd = some R) : ((x1.toInt < 0 ∨ 4 ≤ (x1 / 10).toInt ∨ ¬ (x1 - x1 / 10 * 10).toInt < 8) → R.2.1 = ts) ∧ (¬ (x1.toInt < 0 ∨ 4 ≤ (x1 / 10).toInt ∨ ¬ (x1 - x1 / 10 * 10).toInt < 8) → R.2.1 = 0) := by
  have hm := lw_mod x1
  unfold f_X12_law at h
  unfold B_X12_law_0 at h
  by_cases cc1 : x1 < 0
  · replace h := zk_t cc1 h
    have cc1n := cc1
    (try simp only [i32_lt, i32_le, i32_e, z32_0, z32_1] at cc1n)
    replace h := Option.some.inj h
    subst h
    exact ⟨fun _ => rfl, fun z => by exfalso; omega⟩
  · replace h := zk_f cc1 h
    have cc1n := cc1
    (try simp only [i32_lt, i32_le, i32_e, z32_0, z32_1] at cc1n)
    by_cases cc2 : (3 : Int32) < (x1 / (10 : Int32))
    · replace h := zk_t cc2 h
      have cc2n := cc2
      (try simp only [i32_lt, i32_le, i32_e, z32_0, z32_1, z32L_3, z32L_10] at cc2n)
      replace h := Option.some.inj h
      subst h
      exact ⟨fun _ => rfl, fun z => by exfalso; omega⟩
    · replace h := zk_f cc2 h
      have cc2n := cc2
      (try simp only [i32_lt, i32_le, i32_e, z32_0, z32_1, z32L_3, z32L_10] at cc2n)
      replace h := zk_o2 h
      obtain ⟨cv3, cv4, ch5, h⟩ := h
      unfold f_X12_isLand at ch5
      unfold B_X12_isLand_0 at ch5
      obtain ⟨cv6, cv7, ch8, ch5⟩ := zk_o2 ch5
      unfold f_X12_in at ch8
      unfold B_X12_in_0 at ch8
      by_cases cc9 : (x1 - x1 / (10 : Int32) * (10 : Int32)) < (0 : Int32)
      · have ch8 := zk_t cc9 ch8
        have cc9n := cc9
        (try simp only [i32_lt, i32_le, i32_e, z32_0, z32_1, z32L_10] at cc9n)
        simp only [Option.some.injEq, Prod.mk.injEq] at ch8
        obtain ⟨rfl, _⟩ := ch8
        obtain ⟨_, ch5⟩ := zk_gd ch5
        simp only [Option.some.injEq, Prod.mk.injEq] at ch5
        obtain ⟨rfl, _⟩ := ch5
        replace h := zk_t rfl h
        replace h := Option.some.inj h
        subst h
        exact ⟨fun _ => rfl, fun z => by exfalso; omega⟩
      · have ch8 := zk_f cc9 ch8
        have cc9n := cc9
        (try simp only [i32_lt, i32_le, i32_e, z32_0, z32_1, z32L_10] at cc9n)
        by_cases cc10 : (7 : Int32) < (x1 - x1 / (10 : Int32) * (10 : Int32))
        · have ch8 := zk_t cc10 ch8
          have cc10n := cc10
          (try simp only [i32_lt, i32_le, i32_e, z32_0, z32_1, z32L_7, z32L_10] at cc10n)
          simp only [Option.some.injEq, Prod.mk.injEq] at ch8
          obtain ⟨rfl, _⟩ := ch8
          obtain ⟨_, ch5⟩ := zk_gd ch5
          simp only [Option.some.injEq, Prod.mk.injEq] at ch5
          obtain ⟨rfl, _⟩ := ch5
          replace h := zk_t rfl h
          replace h := Option.some.inj h
          subst h
          exact ⟨fun _ => rfl, fun z => by exfalso; omega⟩
        · have ch8 := zk_f cc10 ch8
          have cc10n := cc10
          (try simp only [i32_lt, i32_le, i32_e, z32_0, z32_1, z32L_7, z32L_10] at cc10n)
          simp only [Option.some.injEq, Prod.mk.injEq] at ch8
          obtain ⟨rfl, _⟩ := ch8
          obtain ⟨_, ch5⟩ := zk_gd ch5
          simp only [Option.some.injEq, Prod.mk.injEq] at ch5
          obtain ⟨rfl, _⟩ := ch5
          replace h := zk_f (by decide) h
          replace h := zk_lt h
          obtain ⟨cv11, ce12, h⟩ := h
          subst ce12
          replace h := zk_o9 h
          obtain ⟨cv13, cv14, cv15, cv16, cv17, cv18, cv19, cv20, cv21, ch22, h⟩ := h
          skip
          have q := lt56 n _ _ _ _ _ _ _ _ _ _ _ R h
          exact ⟨fun z => by exfalso; omega, fun _ => q⟩
def PLR (n : Int32) (j : Nat) (hc su sz : Int32) (el : Nat → Int64) (mh ms : Nat → Int32) (me : Nat → Int64) : Prop :=
  (ms j = sz ∧ 0 ≤ sz.toInt ∧ sz.toInt ≤ 60) ∧ (∀ k, k < 60 → me (60 * j + k) = el k) ∧ ((hc.toInt = -1 ∧ (mh j).toInt = -1) ∨ (0 ≤ hc.toInt ∧ hc.toInt ≤ 4 ∧ (mh j).toInt = -2 - hc.toInt) ∨ (hc.toInt = 5 ∧ (mh j).toInt = su.toInt ∧ 0 ≤ su.toInt ∧ su.toInt < n.toInt))
theorem PLR_fr {n n2 hc su sz : Int32} {i : Nat} {el : Nat → Int64} {mh ms mh2 ms2 : Nat → Int32} {me me2 : Nat → Int64} (h : PLR n i hc su sz el mh ms me) (hn : n.toInt ≤ n2.toInt) (e1 : mh2 i = mh i) (e2 : ms2 i = ms i) (e3 : ∀ k, 60 * i ≤ k → k < 60 * i + 60 → me2 k = me k) : PLR n2 i hc su sz el mh2 ms2 me2 := by
  obtain ⟨h1, h2, h3⟩ := h
  refine ⟨by rw [e2]; exact h1, fun k hk => by rw [e3 _ (by omega) (by omega)]; exact h2 k hk, ?_⟩
  rw [e1]
  omega
theorem PLR_h {n hc su sz hc2 su2 v : Int32} {j : Nat} {el : Nat → Int64} {mh ms : Nat → Int32} {me : Nat → Int64} (h : PLR n j hc su sz el mh ms me) (d : (hc2.toInt = -1 ∧ v.toInt = -1) ∨ (0 ≤ hc2.toInt ∧ hc2.toInt ≤ 4 ∧ v.toInt = -2 - hc2.toInt) ∨ (hc2.toInt = 5 ∧ v.toInt = su2.toInt ∧ 0 ≤ su2.toInt ∧ su2.toInt < n.toInt)) : PLR n j hc2 su2 sz el (upd mh j v) ms me := by
  obtain ⟨h1, h2, h3⟩ := h
  refine ⟨h1, h2, ?_⟩
  unfold upd
  rw [if_pos rfl]
  exact d
theorem PLR_00 {n hc su sz : Int32} {j : Nat} {el : Nat → Int64} {mh ms : Nat → Int32} {me : Nat → Int64} (h1 : hc = -1) (h2 : sz = 0) (h3 : el = fun _ => 0) (m1 : mh j = -1) (m2 : ms j = 0) (m3 : ∀ k, me k = 0) : PLR n j hc su sz el mh ms me := by
  subst h1
  subst h2
  subst h3
  refine ⟨⟨m2, by decide⟩, fun k _ => m3 _, Or.inl ⟨by decide, by rw [m1]; decide⟩⟩
theorem updL_n {f : Nat → Int64} {k i : Nat} {v : Int64} (h : i ≠ k) : vp_updL f k v i = f i := by
  unfold vp_updL
  rw [if_neg h]
theorem ix60 {x y : Int32} (hx : 0 ≤ x.toInt ∧ x.toInt ≤ 5) (hy : 0 ≤ y.toInt ∧ y.toInt ≤ 100) : ((60 : Int32) * x + y).toNatClampNeg = 60 * x.toNatClampNeg + y.toNatClampNeg := by
  have e60 : (60 : Int32).toInt = 60 := by decide
  have e : ((60 : Int32) * x + y).toInt = 60 * x.toInt + y.toInt := by
    rw [Int32.toInt_add, Int32.toInt_mul, e60, zi_bm2 (e := 60 * x.toInt) (by omega) (by omega), zi_bm2 (by omega) (by omega)]
  rw [tcn, tcn, tcn, e]
  omega
theorem PLR_put {n hc su sz : Int32} {j i q : Nat} {el : Nat → Int64} {mh ms : Nat → Int32} {me : Nat → Int64} {v w : Int64} (h : PLR n j hc su sz el mh ms me) (hi : i < 60) (hq : q = 60 * j + i) (hv : w = v) : PLR n j hc su sz (vp_updL el i v) mh ms (vp_updL me q w) := by
  obtain ⟨h1, h2, h3⟩ := h
  subst hv
  refine ⟨h1, fun k hk => ?_, h3⟩
  unfold vp_updL
  by_cases c : k = i
  · rw [if_pos (by omega), if_pos c]
  · rw [if_neg (by omega), if_neg c]
    exact h2 k hk
set_option maxHeartbeats 4000000 in
set_option maxRecDepth 20000 in
theorem pw_keep {mod_code : Int32} {court_shoeCount : Int32} {mod_claims : Int32} {ts : Int32} {at_ : Int32} {f : Int32} {court_suitCount : Int32} {mod_doneMany : Int32} {mod_undoneMany : Int32} {mod_open : Int32} {mod_laid : Int32} {mod_isBoth : Int32} {mod_wished : Int32} {mod_bestMany : Int32} {mod_bestRow : Int32} {mod_ringDigits : Int32} {mod_traces : Int32} {mod_holds : Nat → Int32} {mod_size : Nat → Int32} {mod_elements : Nat → Int64} {court_claimCount : Int32} {court_suits : Nat → Option Nat} {S_who : Nat → Int32} {S_against : Nat → Int32} {S_kind : Nat → Int32} {S_won : Nat → Int32} {S_day : Nat → Int32} {S_land : Nat → Int32} {S_undoneFrom : Nat → Int32} {S_asked : Nat → Nat → Int32} {S_askedCount : Nat → Int32} {S_askedBits : Nat → Int32} {S_first : Nat → Int32} {S_foundSo : Nat → Int32} {S_foundNot : Nat → Int32} {S_fought : Nat → Int32} {S_needed : Nat → Int32} {pl_suit : Int32} {pl_holds : Int32} {pl_size : Int32} {pl_elements : Nat → Int64} {root_places : Nat → Option Nat} {x1 x2 : Int32} (hn : 0 ≤ court_suitCount.toInt ∧ court_suitCount.toInt ≤ 40) {j h_pl : Nat} (hj : (¬ x1 < 0 ∧ ¬ 6 ≤ x1) → x1.toNatClampNeg = j) (hP : PLR court_suitCount j pl_holds pl_suit pl_size pl_elements mod_holds mod_size mod_elements) {R : Int32 × Int32 × Int32} {Q : Int32 × (Nat → Int32)} (h : f_X11_keep h_pl x1 x2 root_places court_shoeCount court_claimCount court_suitCount court_suits pl_holds pl_suit pl_size S_who S_against S_kind S_won S_day S_land S_undoneFrom S_asked S_askedCount S_askedBits S_first S_foundSo S_foundNot S_fought S_needed = some R) (k : f_X12_keep x1 x2 mod_code court_shoeCount mod_claims ts at_ f court_suitCount mod_doneMany mod_undoneMany mod_open mod_laid mod_isBoth mod_wished mod_bestMany mod_bestRow mod_ringDigits mod_traces mod_holds = some Q) : R.1 = Q.1 ∧ PLR court_suitCount j R.2.1 R.2.2 pl_size pl_elements Q.2 mod_size mod_elements ∧ ∀ i, i ≠ j → Q.2 i = mod_holds i := by
  unfold f_X11_keep at h
  unfold f_X12_keep at k
  unfold B_X11_keep_0 at h
  replace h := zk_o2 h
  obtain ⟨cv1, cv2, ch3, h⟩ := h
  unfold f_X11_placeAt at ch3
  unfold B_X11_placeAt_0 at ch3
  by_cases cc4 : x1 < 0
  · have ch3 := zk_t cc4 ch3
    have cc4n := cc4
    (try simp only [i32_lt, i32_le, i32_e, z32_0, z32_1] at cc4n)
    first
    | (exfalso; omega)
    | simp only [Option.some.injEq, Prod.mk.injEq] at ch3
      obtain ⟨rfl, _⟩ := ch3
      replace h := zk_f (by decide) h
      have hn1 := i32_m1 (a := court_suitCount) (by omega)
      unfold B_X12_keep_0 at k
      replace k := zk_o2 k
      obtain ⟨mv1, mv2, mh3, k⟩ := k
      unfold f_X12_isShelf at mh3
      unfold B_X12_isShelf_0 at mh3
      obtain ⟨mv4, mv5, mh6, mh3⟩ := zk_o2 mh3
      unfold f_X12_in at mh6
      unfold B_X12_in_0 at mh6
      have mh6 := zk_t cc4 mh6
      simp only [Option.some.injEq, Prod.mk.injEq] at mh6
      obtain ⟨rfl, _⟩ := mh6
      obtain ⟨_, mh3⟩ := zk_gd mh3
      simp only [Option.some.injEq, Prod.mk.injEq] at mh3
      obtain ⟨rfl, _⟩ := mh3
      replace k := zk_t rfl k
      replace h := Option.some.inj h
      replace k := Option.some.inj k
      subst h
      subst k
      try dsimp only
      all_goals first
      | exact ⟨rfl, hP, fun i hi => rfl⟩
      | (exfalso; omega)
  · have ch3 := zk_f cc4 ch3
    have cc4n := cc4
    (try simp only [i32_lt, i32_le, i32_e, z32_0, z32_1] at cc4n)
    first
    | (exfalso; omega)
    | by_cases cc5 : (6 : Int32) ≤ x1
      · have ch3 := zk_t cc5 ch3
        have cc5n := cc5
        (try simp only [i32_lt, i32_le, i32_e, z32_0, z32_1, z32L_6] at cc5n)
        first
        | (exfalso; omega)
        | simp only [Option.some.injEq, Prod.mk.injEq] at ch3
          obtain ⟨rfl, _⟩ := ch3
          replace h := zk_f (by decide) h
          have hn1 := i32_m1 (a := court_suitCount) (by omega)
          unfold B_X12_keep_0 at k
          replace k := zk_o2 k
          obtain ⟨mv7, mv8, mh9, k⟩ := k
          unfold f_X12_isShelf at mh9
          unfold B_X12_isShelf_0 at mh9
          obtain ⟨mv10, mv11, mh12, mh9⟩ := zk_o2 mh9
          unfold f_X12_in at mh12
          unfold B_X12_in_0 at mh12
          have mh12 := zk_f cc4 mh12
          have mh12 := zk_t (by (try simp only [i32_lt, i32_le, i32_e, z32_0, z32_1, z32L_5]); omega) mh12
          simp only [Option.some.injEq, Prod.mk.injEq] at mh12
          obtain ⟨rfl, _⟩ := mh12
          obtain ⟨_, mh9⟩ := zk_gd mh9
          simp only [Option.some.injEq, Prod.mk.injEq] at mh9
          obtain ⟨rfl, _⟩ := mh9
          replace k := zk_t rfl k
          replace h := Option.some.inj h
          replace k := Option.some.inj k
          subst h
          subst k
          try dsimp only
          all_goals first
          | exact ⟨rfl, hP, fun i hi => rfl⟩
          | (exfalso; omega)
      · have ch3 := zk_f cc5 ch3
        have cc5n := cc5
        (try simp only [i32_lt, i32_le, i32_e, z32_0, z32_1, z32L_6] at cc5n)
        first
        | (exfalso; omega)
        | obtain ⟨_, ch3⟩ := zk_gd ch3
          obtain ⟨_, ch3⟩ := zk_gd ch3
          simp only [Option.some.injEq, Prod.mk.injEq] at ch3
          obtain ⟨rfl, _⟩ := ch3
          replace h := zk_t (by decide) h
          by_cases cc6 : x2 = (-1 : Int32)
          · replace h := zk_t cc6 h
            have cc6n := cc6
            (try simp only [i32_lt, i32_le, i32_e, z32_0, z32_1, z32N_1] at cc6n)
            first
            | (exfalso; omega)
            | unfold B_X11_keep_28 at h
              replace h := zk_t cc6 h
              unfold B_X11_keep_39 at h
              have hjj := hj ⟨cc4, cc5⟩
              subst hjj
              obtain ⟨⟨hs1, hs2, hs3⟩, he, hd⟩ := id hP
              have hx5 : 0 ≤ x1.toInt ∧ x1.toInt ≤ 5 := by
                have q1 := cc4
                have q2 := cc5
                rw [i32_lt, z32_0] at q1
                rw [i32_le, z32L_6] at q2
                omega
              have hsz := i32_m1 (a := mod_size x1.toNatClampNeg) (by rw [hs1]; omega)
              have hsz2 : (mod_size x1.toNatClampNeg).toInt = pl_size.toInt := by rw [hs1]
              have hn1 := i32_m1 (a := court_suitCount) (by omega)
              unfold B_X12_keep_0 at k
              replace k := zk_o2 k
              obtain ⟨mv13, mv14, mh15, k⟩ := k
              unfold f_X12_isShelf at mh15
              unfold B_X12_isShelf_0 at mh15
              obtain ⟨mv16, mv17, mh18, mh15⟩ := zk_o2 mh15
              unfold f_X12_in at mh18
              unfold B_X12_in_0 at mh18
              have mh18 := zk_f cc4 mh18
              have mh18 := zk_f (by (try simp only [i32_lt, i32_le, i32_e, z32_0, z32_1, z32L_5]); omega) mh18
              simp only [Option.some.injEq, Prod.mk.injEq] at mh18
              obtain ⟨rfl, _⟩ := mh18
              obtain ⟨_, mh15⟩ := zk_gd mh15
              simp only [Option.some.injEq, Prod.mk.injEq] at mh15
              obtain ⟨rfl, _⟩ := mh15
              replace k := zk_f (by decide) k
              replace k := zk_t cc6 k
              unfold B_X12_keep_22 at k
              replace k := zk_gd k
              obtain ⟨_, k⟩ := k
              replace k := zk_lt k
              obtain ⟨mv19, me20, k⟩ := k
              subst me20
              replace h := Option.some.inj h
              replace k := Option.some.inj k
              subst h
              subst k
              try dsimp only
              all_goals first
              | exact ⟨rfl, PLR_h hP (by have := z32N_1; have := z32L_5; omega), fun i hi => upd_n hi⟩
              | (exfalso; omega)
          · replace h := zk_f cc6 h
            have cc6n := cc6
            (try simp only [i32_lt, i32_le, i32_e, z32_0, z32_1, z32N_1] at cc6n)
            first
            | (exfalso; omega)
            | obtain ⟨cv7, cv8, ch9, h⟩ := zk_o2 h
              unfold f_X2_suitAt at ch9
              unfold B_X2_suitAt_0 at ch9
              by_cases cc10 : x2 < 0
              · have ch9 := zk_t cc10 ch9
                have cc10n := cc10
                (try simp only [i32_lt, i32_le, i32_e, z32_0, z32_1] at cc10n)
                first
                | (exfalso; omega)
                | simp only [Option.some.injEq, Prod.mk.injEq] at ch9
                  obtain ⟨rfl, _⟩ := ch9
                  replace h := zk_t (by decide) h
                  have hjj := hj ⟨cc4, cc5⟩
                  subst hjj
                  obtain ⟨⟨hs1, hs2, hs3⟩, he, hd⟩ := id hP
                  have hx5 : 0 ≤ x1.toInt ∧ x1.toInt ≤ 5 := by
                    have q1 := cc4
                    have q2 := cc5
                    rw [i32_lt, z32_0] at q1
                    rw [i32_le, z32L_6] at q2
                    omega
                  have hsz := i32_m1 (a := mod_size x1.toNatClampNeg) (by rw [hs1]; omega)
                  have hsz2 : (mod_size x1.toNatClampNeg).toInt = pl_size.toInt := by rw [hs1]
                  have hn1 := i32_m1 (a := court_suitCount) (by omega)
                  unfold B_X12_keep_0 at k
                  replace k := zk_o2 k
                  obtain ⟨mv21, mv22, mh23, k⟩ := k
                  unfold f_X12_isShelf at mh23
                  unfold B_X12_isShelf_0 at mh23
                  obtain ⟨mv24, mv25, mh26, mh23⟩ := zk_o2 mh23
                  unfold f_X12_in at mh26
                  unfold B_X12_in_0 at mh26
                  have mh26 := zk_f cc4 mh26
                  have mh26 := zk_f (by (try simp only [i32_lt, i32_le, i32_e, z32_0, z32_1, z32L_5]); omega) mh26
                  simp only [Option.some.injEq, Prod.mk.injEq] at mh26
                  obtain ⟨rfl, _⟩ := mh26
                  obtain ⟨_, mh23⟩ := zk_gd mh23
                  simp only [Option.some.injEq, Prod.mk.injEq] at mh23
                  obtain ⟨rfl, _⟩ := mh23
                  replace k := zk_f (by decide) k
                  replace k := zk_f cc6 k
                  replace k := zk_o2 k
                  obtain ⟨mv27, mv28, mh29, k⟩ := k
                  unfold f_X12_isSuit at mh29
                  unfold B_X12_isSuit_0 at mh29
                  obtain ⟨mv30, mv31, mh32, mh29⟩ := zk_o2 mh29
                  unfold f_X12_in at mh32
                  unfold B_X12_in_0 at mh32
                  have mh32 := zk_t cc10 mh32
                  simp only [Option.some.injEq, Prod.mk.injEq] at mh32
                  obtain ⟨rfl, _⟩ := mh32
                  obtain ⟨_, mh29⟩ := zk_gd mh29
                  simp only [Option.some.injEq, Prod.mk.injEq] at mh29
                  obtain ⟨rfl, _⟩ := mh29
                  replace k := zk_t rfl k
                  replace h := Option.some.inj h
                  replace k := Option.some.inj k
                  subst h
                  subst k
                  try dsimp only
                  all_goals first
                  | exact ⟨rfl, hP, fun i hi => rfl⟩
                  | (exfalso; omega)
              · have ch9 := zk_f cc10 ch9
                have cc10n := cc10
                (try simp only [i32_lt, i32_le, i32_e, z32_0, z32_1] at cc10n)
                first
                | (exfalso; omega)
                | by_cases cc11 : court_suitCount ≤ x2
                  · have ch9 := zk_t cc11 ch9
                    have cc11n := cc11
                    (try simp only [i32_lt, i32_le, i32_e, z32_0, z32_1] at cc11n)
                    first
                    | (exfalso; omega)
                    | simp only [Option.some.injEq, Prod.mk.injEq] at ch9
                      obtain ⟨rfl, _⟩ := ch9
                      replace h := zk_t (by decide) h
                      have hjj := hj ⟨cc4, cc5⟩
                      subst hjj
                      obtain ⟨⟨hs1, hs2, hs3⟩, he, hd⟩ := id hP
                      have hx5 : 0 ≤ x1.toInt ∧ x1.toInt ≤ 5 := by
                        have q1 := cc4
                        have q2 := cc5
                        rw [i32_lt, z32_0] at q1
                        rw [i32_le, z32L_6] at q2
                        omega
                      have hsz := i32_m1 (a := mod_size x1.toNatClampNeg) (by rw [hs1]; omega)
                      have hsz2 : (mod_size x1.toNatClampNeg).toInt = pl_size.toInt := by rw [hs1]
                      have hn1 := i32_m1 (a := court_suitCount) (by omega)
                      unfold B_X12_keep_0 at k
                      replace k := zk_o2 k
                      obtain ⟨mv33, mv34, mh35, k⟩ := k
                      unfold f_X12_isShelf at mh35
                      unfold B_X12_isShelf_0 at mh35
                      obtain ⟨mv36, mv37, mh38, mh35⟩ := zk_o2 mh35
                      unfold f_X12_in at mh38
                      unfold B_X12_in_0 at mh38
                      have mh38 := zk_f cc4 mh38
                      have mh38 := zk_f (by (try simp only [i32_lt, i32_le, i32_e, z32_0, z32_1, z32L_5]); omega) mh38
                      simp only [Option.some.injEq, Prod.mk.injEq] at mh38
                      obtain ⟨rfl, _⟩ := mh38
                      obtain ⟨_, mh35⟩ := zk_gd mh35
                      simp only [Option.some.injEq, Prod.mk.injEq] at mh35
                      obtain ⟨rfl, _⟩ := mh35
                      replace k := zk_f (by decide) k
                      replace k := zk_f cc6 k
                      replace k := zk_o2 k
                      obtain ⟨mv39, mv40, mh41, k⟩ := k
                      unfold f_X12_isSuit at mh41
                      unfold B_X12_isSuit_0 at mh41
                      obtain ⟨mv42, mv43, mh44, mh41⟩ := zk_o2 mh41
                      unfold f_X12_in at mh44
                      unfold B_X12_in_0 at mh44
                      have mh44 := zk_f cc10 mh44
                      have mh44 := zk_t (by (try simp only [i32_lt, i32_le, i32_e, z32_0, z32_1]); omega) mh44
                      simp only [Option.some.injEq, Prod.mk.injEq] at mh44
                      obtain ⟨rfl, _⟩ := mh44
                      obtain ⟨_, mh41⟩ := zk_gd mh41
                      simp only [Option.some.injEq, Prod.mk.injEq] at mh41
                      obtain ⟨rfl, _⟩ := mh41
                      replace k := zk_t rfl k
                      replace h := Option.some.inj h
                      replace k := Option.some.inj k
                      subst h
                      subst k
                      try dsimp only
                      all_goals first
                      | exact ⟨rfl, hP, fun i hi => rfl⟩
                      | (exfalso; omega)
                  · have ch9 := zk_f cc11 ch9
                    have cc11n := cc11
                    (try simp only [i32_lt, i32_le, i32_e, z32_0, z32_1] at cc11n)
                    first
                    | (exfalso; omega)
                    | obtain ⟨_, ch9⟩ := zk_gd ch9
                      obtain ⟨_, ch9⟩ := zk_gd ch9
                      obtain ⟨_, ch9⟩ := zk_gd ch9
                      simp only [Option.some.injEq, Prod.mk.injEq] at ch9
                      obtain ⟨rfl, _⟩ := ch9
                      replace h := zk_f cc10 h
                      unfold B_X11_keep_28 at h
                      replace h := zk_f cc6 h
                      unfold B_X11_keep_39 at h
                      have hjj := hj ⟨cc4, cc5⟩
                      subst hjj
                      obtain ⟨⟨hs1, hs2, hs3⟩, he, hd⟩ := id hP
                      have hx5 : 0 ≤ x1.toInt ∧ x1.toInt ≤ 5 := by
                        have q1 := cc4
                        have q2 := cc5
                        rw [i32_lt, z32_0] at q1
                        rw [i32_le, z32L_6] at q2
                        omega
                      have hsz := i32_m1 (a := mod_size x1.toNatClampNeg) (by rw [hs1]; omega)
                      have hsz2 : (mod_size x1.toNatClampNeg).toInt = pl_size.toInt := by rw [hs1]
                      have hn1 := i32_m1 (a := court_suitCount) (by omega)
                      unfold B_X12_keep_0 at k
                      replace k := zk_o2 k
                      obtain ⟨mv45, mv46, mh47, k⟩ := k
                      unfold f_X12_isShelf at mh47
                      unfold B_X12_isShelf_0 at mh47
                      obtain ⟨mv48, mv49, mh50, mh47⟩ := zk_o2 mh47
                      unfold f_X12_in at mh50
                      unfold B_X12_in_0 at mh50
                      have mh50 := zk_f cc4 mh50
                      have mh50 := zk_f (by (try simp only [i32_lt, i32_le, i32_e, z32_0, z32_1, z32L_5]); omega) mh50
                      simp only [Option.some.injEq, Prod.mk.injEq] at mh50
                      obtain ⟨rfl, _⟩ := mh50
                      obtain ⟨_, mh47⟩ := zk_gd mh47
                      simp only [Option.some.injEq, Prod.mk.injEq] at mh47
                      obtain ⟨rfl, _⟩ := mh47
                      replace k := zk_f (by decide) k
                      replace k := zk_f cc6 k
                      replace k := zk_o2 k
                      obtain ⟨mv51, mv52, mh53, k⟩ := k
                      unfold f_X12_isSuit at mh53
                      unfold B_X12_isSuit_0 at mh53
                      obtain ⟨mv54, mv55, mh56, mh53⟩ := zk_o2 mh53
                      unfold f_X12_in at mh56
                      unfold B_X12_in_0 at mh56
                      have mh56 := zk_f cc10 mh56
                      have mh56 := zk_f (by (try simp only [i32_lt, i32_le, i32_e, z32_0, z32_1]); omega) mh56
                      simp only [Option.some.injEq, Prod.mk.injEq] at mh56
                      obtain ⟨rfl, _⟩ := mh56
                      obtain ⟨_, mh53⟩ := zk_gd mh53
                      simp only [Option.some.injEq, Prod.mk.injEq] at mh53
                      obtain ⟨rfl, _⟩ := mh53
                      replace k := zk_f (by decide) k
                      unfold B_X12_keep_22 at k
                      replace k := zk_gd k
                      obtain ⟨_, k⟩ := k
                      replace k := zk_lt k
                      obtain ⟨mv57, me58, k⟩ := k
                      subst me58
                      replace h := Option.some.inj h
                      replace k := Option.some.inj k
                      subst h
                      subst k
                      try dsimp only
                      all_goals first
                      | exact ⟨rfl, PLR_h hP (by have := z32N_1; have := z32L_5; omega), fun i hi => upd_n hi⟩
                      | (exfalso; omega)
set_option maxHeartbeats 4000000 in
set_option maxRecDepth 20000 in
theorem pw_element {mod_code : Int32} {court_shoeCount : Int32} {mod_claims : Int32} {ts : Int32} {at_ : Int32} {f : Int32} {court_suitCount : Int32} {mod_doneMany : Int32} {mod_undoneMany : Int32} {mod_open : Int32} {mod_laid : Int32} {mod_isBoth : Int32} {mod_wished : Int32} {mod_bestMany : Int32} {mod_bestRow : Int32} {mod_ringDigits : Int32} {mod_traces : Int32} {mod_holds : Nat → Int32} {mod_size : Nat → Int32} {mod_elements : Nat → Int64} {pl_suit : Int32} {pl_holds : Int32} {pl_size : Int32} {pl_elements : Nat → Int64} {root_places : Nat → Option Nat} {x1 x2 : Int32} {j h_pl : Nat} (hj : (¬ x1 < 0 ∧ ¬ 6 ≤ x1) → x1.toNatClampNeg = j) (hP : PLR court_suitCount j pl_holds pl_suit pl_size pl_elements mod_holds mod_size mod_elements) {R : Int64 × Unit} {Q : Int64 × Unit} (h : f_X11_element h_pl x1 x2 root_places pl_holds pl_suit pl_size pl_elements = some R) (k : f_X12_element x1 x2 mod_code court_shoeCount mod_claims ts at_ f court_suitCount mod_doneMany mod_undoneMany mod_open mod_laid mod_isBoth mod_wished mod_bestMany mod_bestRow mod_ringDigits mod_traces mod_holds mod_size mod_elements = some Q) : R.1 = Q.1 := by
  have hsb : 0 ≤ pl_size.toInt → pl_size.toInt ≤ 60 → 0 ≤ x2.toInt → x2.toInt ≤ 60 → (pl_size - x2).toInt = pl_size.toInt - x2.toInt := fun _ _ q1 q2 => i32_d (by omega) (by omega)
  have hsz0 := hP.1
  unfold f_X11_element at h
  unfold f_X12_element at k
  unfold B_X11_element_0 at h
  replace h := zk_o2 h
  obtain ⟨cv1, cv2, ch3, h⟩ := h
  unfold f_X11_placeAt at ch3
  unfold B_X11_placeAt_0 at ch3
  by_cases cc4 : x1 < 0
  · have ch3 := zk_t cc4 ch3
    have cc4n := cc4
    (try simp only [i32_lt, i32_le, i32_e, z32_0, z32_1] at cc4n)
    first
    | (exfalso; omega)
    | simp only [Option.some.injEq, Prod.mk.injEq] at ch3
      obtain ⟨rfl, _⟩ := ch3
      replace h := zk_f (by decide) h
      unfold B_X12_element_0 at k
      replace k := zk_o2 k
      obtain ⟨mv1, mv2, mh3, k⟩ := k
      unfold f_X12_whyNoPlace at mh3
      unfold B_X12_whyNoPlace_0 at mh3
      obtain ⟨mv4, mv5, mh6, mh3⟩ := zk_o2 mh3
      unfold f_X12_isShelf at mh6
      unfold B_X12_isShelf_0 at mh6
      obtain ⟨mv7, mv8, mh9, mh6⟩ := zk_o2 mh6
      unfold f_X12_in at mh9
      unfold B_X12_in_0 at mh9
      have mh9 := zk_t cc4 mh9
      simp only [Option.some.injEq, Prod.mk.injEq] at mh9
      obtain ⟨rfl, _⟩ := mh9
      obtain ⟨_, mh6⟩ := zk_gd mh6
      simp only [Option.some.injEq, Prod.mk.injEq] at mh6
      obtain ⟨rfl, _⟩ := mh6
      have mh3 := zk_t rfl mh3
      simp only [Option.some.injEq, Prod.mk.injEq] at mh3
      obtain ⟨rfl, _⟩ := mh3
      replace k := zk_f (by decide) k
      replace h := Option.some.inj h
      replace k := Option.some.inj k
      subst h
      subst k
      try dsimp only
      all_goals first
      | (exfalso; omega)
      | exact rfl
      | ((try dsimp only); rw [ix60 hx5 (by omega), he x2.toNatClampNeg (by rw [tcn]; omega)])
  · have ch3 := zk_f cc4 ch3
    have cc4n := cc4
    (try simp only [i32_lt, i32_le, i32_e, z32_0, z32_1] at cc4n)
    first
    | (exfalso; omega)
    | by_cases cc5 : (6 : Int32) ≤ x1
      · have ch3 := zk_t cc5 ch3
        have cc5n := cc5
        (try simp only [i32_lt, i32_le, i32_e, z32_0, z32_1, z32L_6] at cc5n)
        first
        | (exfalso; omega)
        | simp only [Option.some.injEq, Prod.mk.injEq] at ch3
          obtain ⟨rfl, _⟩ := ch3
          replace h := zk_f (by decide) h
          unfold B_X12_element_0 at k
          replace k := zk_o2 k
          obtain ⟨mv10, mv11, mh12, k⟩ := k
          unfold f_X12_whyNoPlace at mh12
          unfold B_X12_whyNoPlace_0 at mh12
          obtain ⟨mv13, mv14, mh15, mh12⟩ := zk_o2 mh12
          unfold f_X12_isShelf at mh15
          unfold B_X12_isShelf_0 at mh15
          obtain ⟨mv16, mv17, mh18, mh15⟩ := zk_o2 mh15
          unfold f_X12_in at mh18
          unfold B_X12_in_0 at mh18
          have mh18 := zk_f cc4 mh18
          have mh18 := zk_t (by (try simp only [i32_lt, i32_le, i32_e, z32_0, z32_1, z32L_5]); omega) mh18
          simp only [Option.some.injEq, Prod.mk.injEq] at mh18
          obtain ⟨rfl, _⟩ := mh18
          obtain ⟨_, mh15⟩ := zk_gd mh15
          simp only [Option.some.injEq, Prod.mk.injEq] at mh15
          obtain ⟨rfl, _⟩ := mh15
          have mh12 := zk_t rfl mh12
          simp only [Option.some.injEq, Prod.mk.injEq] at mh12
          obtain ⟨rfl, _⟩ := mh12
          replace k := zk_f (by decide) k
          replace h := Option.some.inj h
          replace k := Option.some.inj k
          subst h
          subst k
          try dsimp only
          all_goals first
          | (exfalso; omega)
          | exact rfl
          | ((try dsimp only); rw [ix60 hx5 (by omega), he x2.toNatClampNeg (by rw [tcn]; omega)])
      · have ch3 := zk_f cc5 ch3
        have cc5n := cc5
        (try simp only [i32_lt, i32_le, i32_e, z32_0, z32_1, z32L_6] at cc5n)
        first
        | (exfalso; omega)
        | obtain ⟨_, ch3⟩ := zk_gd ch3
          obtain ⟨_, ch3⟩ := zk_gd ch3
          simp only [Option.some.injEq, Prod.mk.injEq] at ch3
          obtain ⟨rfl, _⟩ := ch3
          replace h := zk_t (by decide) h
          replace h := zk_o2 h
          obtain ⟨cv6, cv7, ch8, h⟩ := h
          unfold f_X6_refusalOf at ch8
          unfold B_X6_refusalOf_0 at ch8
          by_cases cc9 : pl_holds = (-1 : Int32)
          · have ch8 := zk_t cc9 ch8
            have cc9n := cc9
            (try simp only [i32_lt, i32_le, i32_e, z32_0, z32_1, z32N_1] at cc9n)
            first
            | (exfalso; omega)
            | simp only [Option.some.injEq, Prod.mk.injEq] at ch8
              obtain ⟨rfl, _⟩ := ch8
              replace h := zk_f (by decide) h
              have hjj := hj ⟨cc4, cc5⟩
              subst hjj
              obtain ⟨⟨hs1, hs2, hs3⟩, he, hd⟩ := id hP
              have hx5 : 0 ≤ x1.toInt ∧ x1.toInt ≤ 5 := by
                have q1 := cc4
                have q2 := cc5
                rw [i32_lt, z32_0] at q1
                rw [i32_le, z32L_6] at q2
                omega
              have hsz := i32_m1 (a := mod_size x1.toNatClampNeg) (by rw [hs1]; omega)
              have hsz2 : (mod_size x1.toNatClampNeg).toInt = pl_size.toInt := by rw [hs1]
              unfold B_X12_element_0 at k
              replace k := zk_o2 k
              obtain ⟨mv19, mv20, mh21, k⟩ := k
              unfold f_X12_whyNoPlace at mh21
              unfold B_X12_whyNoPlace_0 at mh21
              obtain ⟨mv22, mv23, mh24, mh21⟩ := zk_o2 mh21
              unfold f_X12_isShelf at mh24
              unfold B_X12_isShelf_0 at mh24
              obtain ⟨mv25, mv26, mh27, mh24⟩ := zk_o2 mh24
              unfold f_X12_in at mh27
              unfold B_X12_in_0 at mh27
              have mh27 := zk_f cc4 mh27
              have mh27 := zk_f (by (try simp only [i32_lt, i32_le, i32_e, z32_0, z32_1, z32L_5]); omega) mh27
              simp only [Option.some.injEq, Prod.mk.injEq] at mh27
              obtain ⟨rfl, _⟩ := mh27
              obtain ⟨_, mh24⟩ := zk_gd mh24
              simp only [Option.some.injEq, Prod.mk.injEq] at mh24
              obtain ⟨rfl, _⟩ := mh24
              have mh21 := zk_f (by decide) mh21
              obtain ⟨_, mh21⟩ := zk_gd mh21
              by_cases mc28 : (mod_holds x1.toNatClampNeg) = (-1 : Int32)
              · have mh21 := zk_t mc28 mh21
                have mc28n := mc28
                (try simp only [i32_lt, i32_le, i32_e, z32_0, z32_1, z32N_1] at mc28n)
                first
                | (exfalso; omega)
                | simp only [Option.some.injEq, Prod.mk.injEq] at mh21
                  obtain ⟨rfl, _⟩ := mh21
                  replace k := zk_f (by decide) k
                  replace h := Option.some.inj h
                  replace k := Option.some.inj k
                  subst h
                  subst k
                  try dsimp only
                  all_goals first
                  | (exfalso; omega)
                  | exact rfl
                  | ((try dsimp only); rw [ix60 hx5 (by omega), he x2.toNatClampNeg (by rw [tcn]; omega)])
              · have mh21 := zk_f mc28 mh21
                have mc28n := mc28
                (try simp only [i32_lt, i32_le, i32_e, z32_0, z32_1, z32N_1] at mc28n)
                first
                | (exfalso; omega)
                | obtain ⟨_, mh21⟩ := zk_gd mh21
                  by_cases mc29 : (mod_holds x1.toNatClampNeg) < 0
                  · have mh21 := zk_t mc29 mh21
                    have mc29n := mc29
                    (try simp only [i32_lt, i32_le, i32_e, z32_0, z32_1] at mc29n)
                    first
                    | (exfalso; omega)
                    | obtain ⟨_, mh21⟩ := zk_gd mh21
                      obtain ⟨mv30, mv31, mh32, mh21⟩ := zk_o2 mh21
                      unfold f_X12_in at mh32
                      unfold B_X12_in_0 at mh32
                      by_cases mc33 : x2 < (0 : Int32)
                      · have mh32 := zk_t mc33 mh32
                        have mc33n := mc33
                        (try simp only [i32_lt, i32_le, i32_e, z32_0, z32_1] at mc33n)
                        first
                        | (exfalso; omega)
                        | simp only [Option.some.injEq, Prod.mk.injEq] at mh32
                          obtain ⟨rfl, _⟩ := mh32
                          have mh21 := zk_t rfl mh21
                          simp only [Option.some.injEq, Prod.mk.injEq] at mh21
                          obtain ⟨rfl, _⟩ := mh21
                          replace k := zk_f (by decide) k
                          replace h := Option.some.inj h
                          replace k := Option.some.inj k
                          subst h
                          subst k
                          try dsimp only
                          all_goals first
                          | (exfalso; omega)
                          | exact rfl
                          | ((try dsimp only); rw [ix60 hx5 (by omega), he x2.toNatClampNeg (by rw [tcn]; omega)])
                      · have mh32 := zk_f mc33 mh32
                        have mc33n := mc33
                        (try simp only [i32_lt, i32_le, i32_e, z32_0, z32_1] at mc33n)
                        first
                        | (exfalso; omega)
                        | by_cases mc34 : ((mod_size x1.toNatClampNeg) - (1 : Int32)) < x2
                          · have mh32 := zk_t mc34 mh32
                            have mc34n := mc34
                            (try simp only [i32_lt, i32_le, i32_e, z32_0, z32_1] at mc34n)
                            first
                            | (exfalso; omega)
                            | simp only [Option.some.injEq, Prod.mk.injEq] at mh32
                              obtain ⟨rfl, _⟩ := mh32
                              have mh21 := zk_t rfl mh21
                              simp only [Option.some.injEq, Prod.mk.injEq] at mh21
                              obtain ⟨rfl, _⟩ := mh21
                              replace k := zk_f (by decide) k
                              replace h := Option.some.inj h
                              replace k := Option.some.inj k
                              subst h
                              subst k
                              try dsimp only
                              all_goals first
                              | (exfalso; omega)
                              | exact rfl
                              | ((try dsimp only); rw [ix60 hx5 (by omega), he x2.toNatClampNeg (by rw [tcn]; omega)])
                          · have mh32 := zk_f mc34 mh32
                            have mc34n := mc34
                            (try simp only [i32_lt, i32_le, i32_e, z32_0, z32_1] at mc34n)
                            first
                            | (exfalso; omega)
                            | simp only [Option.some.injEq, Prod.mk.injEq] at mh32
                              obtain ⟨rfl, _⟩ := mh32
                              have mh21 := zk_f (by decide) mh21
                              simp only [Option.some.injEq, Prod.mk.injEq] at mh21
                              obtain ⟨rfl, _⟩ := mh21
                              replace k := zk_t (Int32.le_refl _) k
                              replace k := zk_gd k
                              obtain ⟨_, k⟩ := k
                              replace h := Option.some.inj h
                              replace k := Option.some.inj k
                              subst h
                              subst k
                              try dsimp only
                              all_goals first
                              | (exfalso; omega)
                              | exact rfl
                              | ((try dsimp only); rw [ix60 hx5 (by omega), he x2.toNatClampNeg (by rw [tcn]; omega)])
                  · have mh21 := zk_f mc29 mh21
                    have mc29n := mc29
                    (try simp only [i32_lt, i32_le, i32_e, z32_0, z32_1] at mc29n)
                    first
                    | (exfalso; omega)
                    | simp only [Option.some.injEq, Prod.mk.injEq] at mh21
                      obtain ⟨rfl, _⟩ := mh21
                      replace k := zk_f (by decide) k
                      replace h := Option.some.inj h
                      replace k := Option.some.inj k
                      subst h
                      subst k
                      try dsimp only
                      all_goals first
                      | (exfalso; omega)
                      | exact rfl
                      | ((try dsimp only); rw [ix60 hx5 (by omega), he x2.toNatClampNeg (by rw [tcn]; omega)])
          · have ch8 := zk_f cc9 ch8
            have cc9n := cc9
            (try simp only [i32_lt, i32_le, i32_e, z32_0, z32_1, z32N_1] at cc9n)
            first
            | (exfalso; omega)
            | by_cases cc10 : pl_holds = (5 : Int32)
              · have ch8 := zk_t cc10 ch8
                have cc10n := cc10
                (try simp only [i32_lt, i32_le, i32_e, z32_0, z32_1, z32L_5] at cc10n)
                first
                | (exfalso; omega)
                | simp only [Option.some.injEq, Prod.mk.injEq] at ch8
                  obtain ⟨rfl, _⟩ := ch8
                  replace h := zk_f (by decide) h
                  have hjj := hj ⟨cc4, cc5⟩
                  subst hjj
                  obtain ⟨⟨hs1, hs2, hs3⟩, he, hd⟩ := id hP
                  have hx5 : 0 ≤ x1.toInt ∧ x1.toInt ≤ 5 := by
                    have q1 := cc4
                    have q2 := cc5
                    rw [i32_lt, z32_0] at q1
                    rw [i32_le, z32L_6] at q2
                    omega
                  have hsz := i32_m1 (a := mod_size x1.toNatClampNeg) (by rw [hs1]; omega)
                  have hsz2 : (mod_size x1.toNatClampNeg).toInt = pl_size.toInt := by rw [hs1]
                  unfold B_X12_element_0 at k
                  replace k := zk_o2 k
                  obtain ⟨mv35, mv36, mh37, k⟩ := k
                  unfold f_X12_whyNoPlace at mh37
                  unfold B_X12_whyNoPlace_0 at mh37
                  obtain ⟨mv38, mv39, mh40, mh37⟩ := zk_o2 mh37
                  unfold f_X12_isShelf at mh40
                  unfold B_X12_isShelf_0 at mh40
                  obtain ⟨mv41, mv42, mh43, mh40⟩ := zk_o2 mh40
                  unfold f_X12_in at mh43
                  unfold B_X12_in_0 at mh43
                  have mh43 := zk_f cc4 mh43
                  have mh43 := zk_f (by (try simp only [i32_lt, i32_le, i32_e, z32_0, z32_1, z32L_5]); omega) mh43
                  simp only [Option.some.injEq, Prod.mk.injEq] at mh43
                  obtain ⟨rfl, _⟩ := mh43
                  obtain ⟨_, mh40⟩ := zk_gd mh40
                  simp only [Option.some.injEq, Prod.mk.injEq] at mh40
                  obtain ⟨rfl, _⟩ := mh40
                  have mh37 := zk_f (by decide) mh37
                  obtain ⟨_, mh37⟩ := zk_gd mh37
                  by_cases mc44 : (mod_holds x1.toNatClampNeg) = (-1 : Int32)
                  · have mh37 := zk_t mc44 mh37
                    have mc44n := mc44
                    (try simp only [i32_lt, i32_le, i32_e, z32_0, z32_1, z32N_1] at mc44n)
                    first
                    | (exfalso; omega)
                    | simp only [Option.some.injEq, Prod.mk.injEq] at mh37
                      obtain ⟨rfl, _⟩ := mh37
                      replace k := zk_f (by decide) k
                      replace h := Option.some.inj h
                      replace k := Option.some.inj k
                      subst h
                      subst k
                      try dsimp only
                      all_goals first
                      | (exfalso; omega)
                      | exact rfl
                      | ((try dsimp only); rw [ix60 hx5 (by omega), he x2.toNatClampNeg (by rw [tcn]; omega)])
                  · have mh37 := zk_f mc44 mh37
                    have mc44n := mc44
                    (try simp only [i32_lt, i32_le, i32_e, z32_0, z32_1, z32N_1] at mc44n)
                    first
                    | (exfalso; omega)
                    | obtain ⟨_, mh37⟩ := zk_gd mh37
                      by_cases mc45 : (mod_holds x1.toNatClampNeg) < 0
                      · have mh37 := zk_t mc45 mh37
                        have mc45n := mc45
                        (try simp only [i32_lt, i32_le, i32_e, z32_0, z32_1] at mc45n)
                        first
                        | (exfalso; omega)
                        | obtain ⟨_, mh37⟩ := zk_gd mh37
                          obtain ⟨mv46, mv47, mh48, mh37⟩ := zk_o2 mh37
                          unfold f_X12_in at mh48
                          unfold B_X12_in_0 at mh48
                          by_cases mc49 : x2 < (0 : Int32)
                          · have mh48 := zk_t mc49 mh48
                            have mc49n := mc49
                            (try simp only [i32_lt, i32_le, i32_e, z32_0, z32_1] at mc49n)
                            first
                            | (exfalso; omega)
                            | simp only [Option.some.injEq, Prod.mk.injEq] at mh48
                              obtain ⟨rfl, _⟩ := mh48
                              have mh37 := zk_t rfl mh37
                              simp only [Option.some.injEq, Prod.mk.injEq] at mh37
                              obtain ⟨rfl, _⟩ := mh37
                              replace k := zk_f (by decide) k
                              replace h := Option.some.inj h
                              replace k := Option.some.inj k
                              subst h
                              subst k
                              try dsimp only
                              all_goals first
                              | (exfalso; omega)
                              | exact rfl
                              | ((try dsimp only); rw [ix60 hx5 (by omega), he x2.toNatClampNeg (by rw [tcn]; omega)])
                          · have mh48 := zk_f mc49 mh48
                            have mc49n := mc49
                            (try simp only [i32_lt, i32_le, i32_e, z32_0, z32_1] at mc49n)
                            first
                            | (exfalso; omega)
                            | by_cases mc50 : ((mod_size x1.toNatClampNeg) - (1 : Int32)) < x2
                              · have mh48 := zk_t mc50 mh48
                                have mc50n := mc50
                                (try simp only [i32_lt, i32_le, i32_e, z32_0, z32_1] at mc50n)
                                first
                                | (exfalso; omega)
                                | simp only [Option.some.injEq, Prod.mk.injEq] at mh48
                                  obtain ⟨rfl, _⟩ := mh48
                                  have mh37 := zk_t rfl mh37
                                  simp only [Option.some.injEq, Prod.mk.injEq] at mh37
                                  obtain ⟨rfl, _⟩ := mh37
                                  replace k := zk_f (by decide) k
                                  replace h := Option.some.inj h
                                  replace k := Option.some.inj k
                                  subst h
                                  subst k
                                  try dsimp only
                                  all_goals first
                                  | (exfalso; omega)
                                  | exact rfl
                                  | ((try dsimp only); rw [ix60 hx5 (by omega), he x2.toNatClampNeg (by rw [tcn]; omega)])
                              · have mh48 := zk_f mc50 mh48
                                have mc50n := mc50
                                (try simp only [i32_lt, i32_le, i32_e, z32_0, z32_1] at mc50n)
                                first
                                | (exfalso; omega)
                                | simp only [Option.some.injEq, Prod.mk.injEq] at mh48
                                  obtain ⟨rfl, _⟩ := mh48
                                  have mh37 := zk_f (by decide) mh37
                                  simp only [Option.some.injEq, Prod.mk.injEq] at mh37
                                  obtain ⟨rfl, _⟩ := mh37
                                  replace k := zk_t (Int32.le_refl _) k
                                  replace k := zk_gd k
                                  obtain ⟨_, k⟩ := k
                                  replace h := Option.some.inj h
                                  replace k := Option.some.inj k
                                  subst h
                                  subst k
                                  try dsimp only
                                  all_goals first
                                  | (exfalso; omega)
                                  | exact rfl
                                  | ((try dsimp only); rw [ix60 hx5 (by omega), he x2.toNatClampNeg (by rw [tcn]; omega)])
                      · have mh37 := zk_f mc45 mh37
                        have mc45n := mc45
                        (try simp only [i32_lt, i32_le, i32_e, z32_0, z32_1] at mc45n)
                        first
                        | (exfalso; omega)
                        | simp only [Option.some.injEq, Prod.mk.injEq] at mh37
                          obtain ⟨rfl, _⟩ := mh37
                          replace k := zk_f (by decide) k
                          replace h := Option.some.inj h
                          replace k := Option.some.inj k
                          subst h
                          subst k
                          try dsimp only
                          all_goals first
                          | (exfalso; omega)
                          | exact rfl
                          | ((try dsimp only); rw [ix60 hx5 (by omega), he x2.toNatClampNeg (by rw [tcn]; omega)])
              · have ch8 := zk_f cc10 ch8
                have cc10n := cc10
                (try simp only [i32_lt, i32_le, i32_e, z32_0, z32_1, z32L_5] at cc10n)
                first
                | (exfalso; omega)
                | obtain ⟨cv11, cv12, ch13, ch8⟩ := zk_o2 ch8
                  unfold f_X6_hasRange at ch13
                  unfold B_X6_hasRange_0 at ch13
                  by_cases cc14 : x2 < 0
                  · have ch13 := zk_t cc14 ch13
                    have cc14n := cc14
                    (try simp only [i32_lt, i32_le, i32_e, z32_0, z32_1] at cc14n)
                    first
                    | (exfalso; omega)
                    | simp only [Option.some.injEq, Prod.mk.injEq] at ch13
                      obtain ⟨rfl, _⟩ := ch13
                      have ch8 := zk_t rfl ch8
                      simp only [Option.some.injEq, Prod.mk.injEq] at ch8
                      obtain ⟨rfl, _⟩ := ch8
                      replace h := zk_f (by decide) h
                      have hjj := hj ⟨cc4, cc5⟩
                      subst hjj
                      obtain ⟨⟨hs1, hs2, hs3⟩, he, hd⟩ := id hP
                      have hx5 : 0 ≤ x1.toInt ∧ x1.toInt ≤ 5 := by
                        have q1 := cc4
                        have q2 := cc5
                        rw [i32_lt, z32_0] at q1
                        rw [i32_le, z32L_6] at q2
                        omega
                      have hsz := i32_m1 (a := mod_size x1.toNatClampNeg) (by rw [hs1]; omega)
                      have hsz2 : (mod_size x1.toNatClampNeg).toInt = pl_size.toInt := by rw [hs1]
                      unfold B_X12_element_0 at k
                      replace k := zk_o2 k
                      obtain ⟨mv51, mv52, mh53, k⟩ := k
                      unfold f_X12_whyNoPlace at mh53
                      unfold B_X12_whyNoPlace_0 at mh53
                      obtain ⟨mv54, mv55, mh56, mh53⟩ := zk_o2 mh53
                      unfold f_X12_isShelf at mh56
                      unfold B_X12_isShelf_0 at mh56
                      obtain ⟨mv57, mv58, mh59, mh56⟩ := zk_o2 mh56
                      unfold f_X12_in at mh59
                      unfold B_X12_in_0 at mh59
                      have mh59 := zk_f cc4 mh59
                      have mh59 := zk_f (by (try simp only [i32_lt, i32_le, i32_e, z32_0, z32_1, z32L_5]); omega) mh59
                      simp only [Option.some.injEq, Prod.mk.injEq] at mh59
                      obtain ⟨rfl, _⟩ := mh59
                      obtain ⟨_, mh56⟩ := zk_gd mh56
                      simp only [Option.some.injEq, Prod.mk.injEq] at mh56
                      obtain ⟨rfl, _⟩ := mh56
                      have mh53 := zk_f (by decide) mh53
                      obtain ⟨_, mh53⟩ := zk_gd mh53
                      by_cases mc60 : (mod_holds x1.toNatClampNeg) = (-1 : Int32)
                      · have mh53 := zk_t mc60 mh53
                        have mc60n := mc60
                        (try simp only [i32_lt, i32_le, i32_e, z32_0, z32_1, z32N_1] at mc60n)
                        first
                        | (exfalso; omega)
                        | simp only [Option.some.injEq, Prod.mk.injEq] at mh53
                          obtain ⟨rfl, _⟩ := mh53
                          replace k := zk_f (by decide) k
                          replace h := Option.some.inj h
                          replace k := Option.some.inj k
                          subst h
                          subst k
                          try dsimp only
                          all_goals first
                          | (exfalso; omega)
                          | exact rfl
                          | ((try dsimp only); rw [ix60 hx5 (by omega), he x2.toNatClampNeg (by rw [tcn]; omega)])
                      · have mh53 := zk_f mc60 mh53
                        have mc60n := mc60
                        (try simp only [i32_lt, i32_le, i32_e, z32_0, z32_1, z32N_1] at mc60n)
                        first
                        | (exfalso; omega)
                        | obtain ⟨_, mh53⟩ := zk_gd mh53
                          by_cases mc61 : (mod_holds x1.toNatClampNeg) < 0
                          · have mh53 := zk_t mc61 mh53
                            have mc61n := mc61
                            (try simp only [i32_lt, i32_le, i32_e, z32_0, z32_1] at mc61n)
                            first
                            | (exfalso; omega)
                            | obtain ⟨_, mh53⟩ := zk_gd mh53
                              obtain ⟨mv62, mv63, mh64, mh53⟩ := zk_o2 mh53
                              unfold f_X12_in at mh64
                              unfold B_X12_in_0 at mh64
                              have mh64 := zk_t cc14 mh64
                              simp only [Option.some.injEq, Prod.mk.injEq] at mh64
                              obtain ⟨rfl, _⟩ := mh64
                              have mh53 := zk_t rfl mh53
                              simp only [Option.some.injEq, Prod.mk.injEq] at mh53
                              obtain ⟨rfl, _⟩ := mh53
                              replace k := zk_f (by decide) k
                              replace h := Option.some.inj h
                              replace k := Option.some.inj k
                              subst h
                              subst k
                              try dsimp only
                              all_goals first
                              | (exfalso; omega)
                              | exact rfl
                              | ((try dsimp only); rw [ix60 hx5 (by omega), he x2.toNatClampNeg (by rw [tcn]; omega)])
                          · have mh53 := zk_f mc61 mh53
                            have mc61n := mc61
                            (try simp only [i32_lt, i32_le, i32_e, z32_0, z32_1] at mc61n)
                            first
                            | (exfalso; omega)
                            | simp only [Option.some.injEq, Prod.mk.injEq] at mh53
                              obtain ⟨rfl, _⟩ := mh53
                              replace k := zk_f (by decide) k
                              replace h := Option.some.inj h
                              replace k := Option.some.inj k
                              subst h
                              subst k
                              try dsimp only
                              all_goals first
                              | (exfalso; omega)
                              | exact rfl
                              | ((try dsimp only); rw [ix60 hx5 (by omega), he x2.toNatClampNeg (by rw [tcn]; omega)])
                  · have ch13 := zk_f cc14 ch13
                    have cc14n := cc14
                    (try simp only [i32_lt, i32_le, i32_e, z32_0, z32_1] at cc14n)
                    first
                    | (exfalso; omega)
                    | have ch13 := zk_f (by decide) ch13
                      by_cases cc15 : pl_size < x2
                      · have ch13 := zk_t cc15 ch13
                        have cc15n := cc15
                        (try simp only [i32_lt, i32_le, i32_e, z32_0, z32_1] at cc15n)
                        first
                        | (exfalso; omega)
                        | simp only [Option.some.injEq, Prod.mk.injEq] at ch13
                          obtain ⟨rfl, _⟩ := ch13
                          have ch8 := zk_t rfl ch8
                          simp only [Option.some.injEq, Prod.mk.injEq] at ch8
                          obtain ⟨rfl, _⟩ := ch8
                          replace h := zk_f (by decide) h
                          have hjj := hj ⟨cc4, cc5⟩
                          subst hjj
                          obtain ⟨⟨hs1, hs2, hs3⟩, he, hd⟩ := id hP
                          have hx5 : 0 ≤ x1.toInt ∧ x1.toInt ≤ 5 := by
                            have q1 := cc4
                            have q2 := cc5
                            rw [i32_lt, z32_0] at q1
                            rw [i32_le, z32L_6] at q2
                            omega
                          have hsz := i32_m1 (a := mod_size x1.toNatClampNeg) (by rw [hs1]; omega)
                          have hsz2 : (mod_size x1.toNatClampNeg).toInt = pl_size.toInt := by rw [hs1]
                          unfold B_X12_element_0 at k
                          replace k := zk_o2 k
                          obtain ⟨mv65, mv66, mh67, k⟩ := k
                          unfold f_X12_whyNoPlace at mh67
                          unfold B_X12_whyNoPlace_0 at mh67
                          obtain ⟨mv68, mv69, mh70, mh67⟩ := zk_o2 mh67
                          unfold f_X12_isShelf at mh70
                          unfold B_X12_isShelf_0 at mh70
                          obtain ⟨mv71, mv72, mh73, mh70⟩ := zk_o2 mh70
                          unfold f_X12_in at mh73
                          unfold B_X12_in_0 at mh73
                          have mh73 := zk_f cc4 mh73
                          have mh73 := zk_f (by (try simp only [i32_lt, i32_le, i32_e, z32_0, z32_1, z32L_5]); omega) mh73
                          simp only [Option.some.injEq, Prod.mk.injEq] at mh73
                          obtain ⟨rfl, _⟩ := mh73
                          obtain ⟨_, mh70⟩ := zk_gd mh70
                          simp only [Option.some.injEq, Prod.mk.injEq] at mh70
                          obtain ⟨rfl, _⟩ := mh70
                          have mh67 := zk_f (by decide) mh67
                          obtain ⟨_, mh67⟩ := zk_gd mh67
                          by_cases mc74 : (mod_holds x1.toNatClampNeg) = (-1 : Int32)
                          · have mh67 := zk_t mc74 mh67
                            have mc74n := mc74
                            (try simp only [i32_lt, i32_le, i32_e, z32_0, z32_1, z32N_1] at mc74n)
                            first
                            | (exfalso; omega)
                            | simp only [Option.some.injEq, Prod.mk.injEq] at mh67
                              obtain ⟨rfl, _⟩ := mh67
                              replace k := zk_f (by decide) k
                              replace h := Option.some.inj h
                              replace k := Option.some.inj k
                              subst h
                              subst k
                              try dsimp only
                              all_goals first
                              | (exfalso; omega)
                              | exact rfl
                              | ((try dsimp only); rw [ix60 hx5 (by omega), he x2.toNatClampNeg (by rw [tcn]; omega)])
                          · have mh67 := zk_f mc74 mh67
                            have mc74n := mc74
                            (try simp only [i32_lt, i32_le, i32_e, z32_0, z32_1, z32N_1] at mc74n)
                            first
                            | (exfalso; omega)
                            | obtain ⟨_, mh67⟩ := zk_gd mh67
                              by_cases mc75 : (mod_holds x1.toNatClampNeg) < 0
                              · have mh67 := zk_t mc75 mh67
                                have mc75n := mc75
                                (try simp only [i32_lt, i32_le, i32_e, z32_0, z32_1] at mc75n)
                                first
                                | (exfalso; omega)
                                | obtain ⟨_, mh67⟩ := zk_gd mh67
                                  obtain ⟨mv76, mv77, mh78, mh67⟩ := zk_o2 mh67
                                  unfold f_X12_in at mh78
                                  unfold B_X12_in_0 at mh78
                                  have mh78 := zk_f cc14 mh78
                                  by_cases mc79 : ((mod_size x1.toNatClampNeg) - (1 : Int32)) < x2
                                  · have mh78 := zk_t mc79 mh78
                                    have mc79n := mc79
                                    (try simp only [i32_lt, i32_le, i32_e, z32_0, z32_1] at mc79n)
                                    first
                                    | (exfalso; omega)
                                    | simp only [Option.some.injEq, Prod.mk.injEq] at mh78
                                      obtain ⟨rfl, _⟩ := mh78
                                      have mh67 := zk_t rfl mh67
                                      simp only [Option.some.injEq, Prod.mk.injEq] at mh67
                                      obtain ⟨rfl, _⟩ := mh67
                                      replace k := zk_f (by decide) k
                                      replace h := Option.some.inj h
                                      replace k := Option.some.inj k
                                      subst h
                                      subst k
                                      try dsimp only
                                      all_goals first
                                      | (exfalso; omega)
                                      | exact rfl
                                      | ((try dsimp only); rw [ix60 hx5 (by omega), he x2.toNatClampNeg (by rw [tcn]; omega)])
                                  · have mh78 := zk_f mc79 mh78
                                    have mc79n := mc79
                                    (try simp only [i32_lt, i32_le, i32_e, z32_0, z32_1] at mc79n)
                                    first
                                    | (exfalso; omega)
                                    | simp only [Option.some.injEq, Prod.mk.injEq] at mh78
                                      obtain ⟨rfl, _⟩ := mh78
                                      have mh67 := zk_f (by decide) mh67
                                      simp only [Option.some.injEq, Prod.mk.injEq] at mh67
                                      obtain ⟨rfl, _⟩ := mh67
                                      replace k := zk_t (Int32.le_refl _) k
                                      replace k := zk_gd k
                                      obtain ⟨_, k⟩ := k
                                      replace h := Option.some.inj h
                                      replace k := Option.some.inj k
                                      subst h
                                      subst k
                                      try dsimp only
                                      all_goals first
                                      | (exfalso; omega)
                                      | exact rfl
                                      | ((try dsimp only); rw [ix60 hx5 (by omega), he x2.toNatClampNeg (by rw [tcn]; omega)])
                              · have mh67 := zk_f mc75 mh67
                                have mc75n := mc75
                                (try simp only [i32_lt, i32_le, i32_e, z32_0, z32_1] at mc75n)
                                first
                                | (exfalso; omega)
                                | simp only [Option.some.injEq, Prod.mk.injEq] at mh67
                                  obtain ⟨rfl, _⟩ := mh67
                                  replace k := zk_f (by decide) k
                                  replace h := Option.some.inj h
                                  replace k := Option.some.inj k
                                  subst h
                                  subst k
                                  try dsimp only
                                  all_goals first
                                  | (exfalso; omega)
                                  | exact rfl
                                  | ((try dsimp only); rw [ix60 hx5 (by omega), he x2.toNatClampNeg (by rw [tcn]; omega)])
                      · have ch13 := zk_f cc15 ch13
                        have cc15n := cc15
                        (try simp only [i32_lt, i32_le, i32_e, z32_0, z32_1] at cc15n)
                        first
                        | (exfalso; omega)
                        | by_cases cc16 : (pl_size - x2) < (1 : Int32)
                          · have ch13 := zk_t cc16 ch13
                            have cc16n := cc16
                            (try simp only [i32_lt, i32_le, i32_e, z32_0, z32_1] at cc16n)
                            first
                            | (exfalso; omega)
                            | simp only [Option.some.injEq, Prod.mk.injEq] at ch13
                              obtain ⟨rfl, _⟩ := ch13
                              have ch8 := zk_t rfl ch8
                              simp only [Option.some.injEq, Prod.mk.injEq] at ch8
                              obtain ⟨rfl, _⟩ := ch8
                              replace h := zk_f (by decide) h
                              have hjj := hj ⟨cc4, cc5⟩
                              subst hjj
                              obtain ⟨⟨hs1, hs2, hs3⟩, he, hd⟩ := id hP
                              have hx5 : 0 ≤ x1.toInt ∧ x1.toInt ≤ 5 := by
                                have q1 := cc4
                                have q2 := cc5
                                rw [i32_lt, z32_0] at q1
                                rw [i32_le, z32L_6] at q2
                                omega
                              have hsz := i32_m1 (a := mod_size x1.toNatClampNeg) (by rw [hs1]; omega)
                              have hsz2 : (mod_size x1.toNatClampNeg).toInt = pl_size.toInt := by rw [hs1]
                              unfold B_X12_element_0 at k
                              replace k := zk_o2 k
                              obtain ⟨mv80, mv81, mh82, k⟩ := k
                              unfold f_X12_whyNoPlace at mh82
                              unfold B_X12_whyNoPlace_0 at mh82
                              obtain ⟨mv83, mv84, mh85, mh82⟩ := zk_o2 mh82
                              unfold f_X12_isShelf at mh85
                              unfold B_X12_isShelf_0 at mh85
                              obtain ⟨mv86, mv87, mh88, mh85⟩ := zk_o2 mh85
                              unfold f_X12_in at mh88
                              unfold B_X12_in_0 at mh88
                              have mh88 := zk_f cc4 mh88
                              have mh88 := zk_f (by (try simp only [i32_lt, i32_le, i32_e, z32_0, z32_1, z32L_5]); omega) mh88
                              simp only [Option.some.injEq, Prod.mk.injEq] at mh88
                              obtain ⟨rfl, _⟩ := mh88
                              obtain ⟨_, mh85⟩ := zk_gd mh85
                              simp only [Option.some.injEq, Prod.mk.injEq] at mh85
                              obtain ⟨rfl, _⟩ := mh85
                              have mh82 := zk_f (by decide) mh82
                              obtain ⟨_, mh82⟩ := zk_gd mh82
                              by_cases mc89 : (mod_holds x1.toNatClampNeg) = (-1 : Int32)
                              · have mh82 := zk_t mc89 mh82
                                have mc89n := mc89
                                (try simp only [i32_lt, i32_le, i32_e, z32_0, z32_1, z32N_1] at mc89n)
                                first
                                | (exfalso; omega)
                                | simp only [Option.some.injEq, Prod.mk.injEq] at mh82
                                  obtain ⟨rfl, _⟩ := mh82
                                  replace k := zk_f (by decide) k
                                  replace h := Option.some.inj h
                                  replace k := Option.some.inj k
                                  subst h
                                  subst k
                                  try dsimp only
                                  all_goals first
                                  | (exfalso; omega)
                                  | exact rfl
                                  | ((try dsimp only); rw [ix60 hx5 (by omega), he x2.toNatClampNeg (by rw [tcn]; omega)])
                              · have mh82 := zk_f mc89 mh82
                                have mc89n := mc89
                                (try simp only [i32_lt, i32_le, i32_e, z32_0, z32_1, z32N_1] at mc89n)
                                first
                                | (exfalso; omega)
                                | obtain ⟨_, mh82⟩ := zk_gd mh82
                                  by_cases mc90 : (mod_holds x1.toNatClampNeg) < 0
                                  · have mh82 := zk_t mc90 mh82
                                    have mc90n := mc90
                                    (try simp only [i32_lt, i32_le, i32_e, z32_0, z32_1] at mc90n)
                                    first
                                    | (exfalso; omega)
                                    | obtain ⟨_, mh82⟩ := zk_gd mh82
                                      obtain ⟨mv91, mv92, mh93, mh82⟩ := zk_o2 mh82
                                      unfold f_X12_in at mh93
                                      unfold B_X12_in_0 at mh93
                                      have mh93 := zk_f cc14 mh93
                                      by_cases mc94 : ((mod_size x1.toNatClampNeg) - (1 : Int32)) < x2
                                      · have mh93 := zk_t mc94 mh93
                                        have mc94n := mc94
                                        (try simp only [i32_lt, i32_le, i32_e, z32_0, z32_1] at mc94n)
                                        first
                                        | (exfalso; omega)
                                        | simp only [Option.some.injEq, Prod.mk.injEq] at mh93
                                          obtain ⟨rfl, _⟩ := mh93
                                          have mh82 := zk_t rfl mh82
                                          simp only [Option.some.injEq, Prod.mk.injEq] at mh82
                                          obtain ⟨rfl, _⟩ := mh82
                                          replace k := zk_f (by decide) k
                                          replace h := Option.some.inj h
                                          replace k := Option.some.inj k
                                          subst h
                                          subst k
                                          try dsimp only
                                          all_goals first
                                          | (exfalso; omega)
                                          | exact rfl
                                          | ((try dsimp only); rw [ix60 hx5 (by omega), he x2.toNatClampNeg (by rw [tcn]; omega)])
                                      · have mh93 := zk_f mc94 mh93
                                        have mc94n := mc94
                                        (try simp only [i32_lt, i32_le, i32_e, z32_0, z32_1] at mc94n)
                                        first
                                        | (exfalso; omega)
                                        | simp only [Option.some.injEq, Prod.mk.injEq] at mh93
                                          obtain ⟨rfl, _⟩ := mh93
                                          have mh82 := zk_f (by decide) mh82
                                          simp only [Option.some.injEq, Prod.mk.injEq] at mh82
                                          obtain ⟨rfl, _⟩ := mh82
                                          replace k := zk_t (Int32.le_refl _) k
                                          replace k := zk_gd k
                                          obtain ⟨_, k⟩ := k
                                          replace h := Option.some.inj h
                                          replace k := Option.some.inj k
                                          subst h
                                          subst k
                                          try dsimp only
                                          all_goals first
                                          | (exfalso; omega)
                                          | exact rfl
                                          | ((try dsimp only); rw [ix60 hx5 (by omega), he x2.toNatClampNeg (by rw [tcn]; omega)])
                                  · have mh82 := zk_f mc90 mh82
                                    have mc90n := mc90
                                    (try simp only [i32_lt, i32_le, i32_e, z32_0, z32_1] at mc90n)
                                    first
                                    | (exfalso; omega)
                                    | simp only [Option.some.injEq, Prod.mk.injEq] at mh82
                                      obtain ⟨rfl, _⟩ := mh82
                                      replace k := zk_f (by decide) k
                                      replace h := Option.some.inj h
                                      replace k := Option.some.inj k
                                      subst h
                                      subst k
                                      try dsimp only
                                      all_goals first
                                      | (exfalso; omega)
                                      | exact rfl
                                      | ((try dsimp only); rw [ix60 hx5 (by omega), he x2.toNatClampNeg (by rw [tcn]; omega)])
                          · have ch13 := zk_f cc16 ch13
                            have cc16n := cc16
                            (try simp only [i32_lt, i32_le, i32_e, z32_0, z32_1] at cc16n)
                            first
                            | (exfalso; omega)
                            | simp only [Option.some.injEq, Prod.mk.injEq] at ch13
                              obtain ⟨rfl, _⟩ := ch13
                              have ch8 := zk_f (by decide) ch8
                              simp only [Option.some.injEq, Prod.mk.injEq] at ch8
                              obtain ⟨rfl, _⟩ := ch8
                              replace h := zk_t (Int32.le_refl _) h
                              replace h := zk_gd h
                              obtain ⟨_, h⟩ := h
                              have hjj := hj ⟨cc4, cc5⟩
                              subst hjj
                              obtain ⟨⟨hs1, hs2, hs3⟩, he, hd⟩ := id hP
                              have hx5 : 0 ≤ x1.toInt ∧ x1.toInt ≤ 5 := by
                                have q1 := cc4
                                have q2 := cc5
                                rw [i32_lt, z32_0] at q1
                                rw [i32_le, z32L_6] at q2
                                omega
                              have hsz := i32_m1 (a := mod_size x1.toNatClampNeg) (by rw [hs1]; omega)
                              have hsz2 : (mod_size x1.toNatClampNeg).toInt = pl_size.toInt := by rw [hs1]
                              unfold B_X12_element_0 at k
                              replace k := zk_o2 k
                              obtain ⟨mv95, mv96, mh97, k⟩ := k
                              unfold f_X12_whyNoPlace at mh97
                              unfold B_X12_whyNoPlace_0 at mh97
                              obtain ⟨mv98, mv99, mh100, mh97⟩ := zk_o2 mh97
                              unfold f_X12_isShelf at mh100
                              unfold B_X12_isShelf_0 at mh100
                              obtain ⟨mv101, mv102, mh103, mh100⟩ := zk_o2 mh100
                              unfold f_X12_in at mh103
                              unfold B_X12_in_0 at mh103
                              have mh103 := zk_f cc4 mh103
                              have mh103 := zk_f (by (try simp only [i32_lt, i32_le, i32_e, z32_0, z32_1, z32L_5]); omega) mh103
                              simp only [Option.some.injEq, Prod.mk.injEq] at mh103
                              obtain ⟨rfl, _⟩ := mh103
                              obtain ⟨_, mh100⟩ := zk_gd mh100
                              simp only [Option.some.injEq, Prod.mk.injEq] at mh100
                              obtain ⟨rfl, _⟩ := mh100
                              have mh97 := zk_f (by decide) mh97
                              obtain ⟨_, mh97⟩ := zk_gd mh97
                              by_cases mc104 : (mod_holds x1.toNatClampNeg) = (-1 : Int32)
                              · have mh97 := zk_t mc104 mh97
                                have mc104n := mc104
                                (try simp only [i32_lt, i32_le, i32_e, z32_0, z32_1, z32N_1] at mc104n)
                                first
                                | (exfalso; omega)
                                | simp only [Option.some.injEq, Prod.mk.injEq] at mh97
                                  obtain ⟨rfl, _⟩ := mh97
                                  replace k := zk_f (by decide) k
                                  replace h := Option.some.inj h
                                  replace k := Option.some.inj k
                                  subst h
                                  subst k
                                  try dsimp only
                                  all_goals first
                                  | (exfalso; omega)
                                  | exact rfl
                                  | ((try dsimp only); rw [ix60 hx5 (by omega), he x2.toNatClampNeg (by rw [tcn]; omega)])
                              · have mh97 := zk_f mc104 mh97
                                have mc104n := mc104
                                (try simp only [i32_lt, i32_le, i32_e, z32_0, z32_1, z32N_1] at mc104n)
                                first
                                | (exfalso; omega)
                                | obtain ⟨_, mh97⟩ := zk_gd mh97
                                  by_cases mc105 : (mod_holds x1.toNatClampNeg) < 0
                                  · have mh97 := zk_t mc105 mh97
                                    have mc105n := mc105
                                    (try simp only [i32_lt, i32_le, i32_e, z32_0, z32_1] at mc105n)
                                    first
                                    | (exfalso; omega)
                                    | obtain ⟨_, mh97⟩ := zk_gd mh97
                                      obtain ⟨mv106, mv107, mh108, mh97⟩ := zk_o2 mh97
                                      unfold f_X12_in at mh108
                                      unfold B_X12_in_0 at mh108
                                      have mh108 := zk_f cc14 mh108
                                      by_cases mc109 : ((mod_size x1.toNatClampNeg) - (1 : Int32)) < x2
                                      · have mh108 := zk_t mc109 mh108
                                        have mc109n := mc109
                                        (try simp only [i32_lt, i32_le, i32_e, z32_0, z32_1] at mc109n)
                                        first
                                        | (exfalso; omega)
                                        | simp only [Option.some.injEq, Prod.mk.injEq] at mh108
                                          obtain ⟨rfl, _⟩ := mh108
                                          have mh97 := zk_t rfl mh97
                                          simp only [Option.some.injEq, Prod.mk.injEq] at mh97
                                          obtain ⟨rfl, _⟩ := mh97
                                          replace k := zk_f (by decide) k
                                          replace h := Option.some.inj h
                                          replace k := Option.some.inj k
                                          subst h
                                          subst k
                                          try dsimp only
                                          all_goals first
                                          | (exfalso; omega)
                                          | exact rfl
                                          | ((try dsimp only); rw [ix60 hx5 (by omega), he x2.toNatClampNeg (by rw [tcn]; omega)])
                                      · have mh108 := zk_f mc109 mh108
                                        have mc109n := mc109
                                        (try simp only [i32_lt, i32_le, i32_e, z32_0, z32_1] at mc109n)
                                        first
                                        | (exfalso; omega)
                                        | simp only [Option.some.injEq, Prod.mk.injEq] at mh108
                                          obtain ⟨rfl, _⟩ := mh108
                                          have mh97 := zk_f (by decide) mh97
                                          simp only [Option.some.injEq, Prod.mk.injEq] at mh97
                                          obtain ⟨rfl, _⟩ := mh97
                                          replace k := zk_t (Int32.le_refl _) k
                                          replace k := zk_gd k
                                          obtain ⟨_, k⟩ := k
                                          replace h := Option.some.inj h
                                          replace k := Option.some.inj k
                                          subst h
                                          subst k
                                          try dsimp only
                                          all_goals first
                                          | (exfalso; omega)
                                          | exact rfl
                                          | ((try dsimp only); rw [ix60 hx5 (by omega), he x2.toNatClampNeg (by rw [tcn]; omega)])
                                  · have mh97 := zk_f mc105 mh97
                                    have mc105n := mc105
                                    (try simp only [i32_lt, i32_le, i32_e, z32_0, z32_1] at mc105n)
                                    first
                                    | (exfalso; omega)
                                    | simp only [Option.some.injEq, Prod.mk.injEq] at mh97
                                      obtain ⟨rfl, _⟩ := mh97
                                      replace k := zk_f (by decide) k
                                      replace h := Option.some.inj h
                                      replace k := Option.some.inj k
                                      subst h
                                      subst k
                                      try dsimp only
                                      all_goals first
                                      | (exfalso; omega)
                                      | exact rfl
                                      | ((try dsimp only); rw [ix60 hx5 (by omega), he x2.toNatClampNeg (by rw [tcn]; omega)])

def lb (hc : Int32) (v : Int64) : Int64 := if hc = 0 then v.toInt32.toInt8.toInt32.toInt64 else if hc = 1 then v.toInt32.toInt16.toInt32.toInt64 else if hc = 2 then v.toInt32.toInt64 else if hc = 3 then v else if hc = 4 then (if lg_cmp v 0 = 0 then 0 else 1) else v
def lm (so : Int32) (v : Int64) : Int64 := if so = 0 then v.toInt32.toInt8.toInt32.toInt64 else if so = 1 then v.toInt32.toInt16.toInt32.toInt64 else if so = 2 then v.toInt32.toInt64 else if so = 3 then v else (if lg_cmp v 0 = 0 then 0 else 1)
theorem lb_lm {hc so : Int32} {v : Int64} (h : 0 ≤ hc.toInt ∧ hc.toInt ≤ 4) (e : so.toInt = hc.toInt) : lm so v = lb hc v := by
  have e2 : so = hc := Int32.toInt_inj.mp e
  subst e2
  unfold lm lb
  by_cases c0 : so = 0
  · rw [if_pos c0, if_pos c0]
  by_cases c1 : so = 1
  · rw [if_neg c0, if_neg c0, if_pos c1, if_pos c1]
  by_cases c2 : so = 2
  · rw [if_neg c0, if_neg c0, if_neg c1, if_neg c1, if_pos c2, if_pos c2]
  by_cases c3 : so = 3
  · rw [if_neg c0, if_neg c0, if_neg c1, if_neg c1, if_neg c2, if_neg c2, if_pos c3, if_pos c3]
  have c4 : so = 4 := by
    rw [i32_e] at c0 c1 c2 c3 ⊢
    rw [z32_0] at c0
    rw [z32_1] at c1
    rw [z32L_2] at c2
    rw [z32L_3] at c3
    rw [z32L_4]
    omega
  rw [if_neg c0, if_neg c0, if_neg c1, if_neg c1, if_neg c2, if_neg c2, if_neg c3, if_neg c3, if_pos c4]
set_option maxHeartbeats 4000000 in
set_option maxRecDepth 20000 in
theorem lb_e {pl_suit : Int32} {pl_holds : Int32} {pl_size : Int32} {x1 r : Int64} {u : Unit} (h : f_X6_lowestBits x1 pl_holds pl_suit pl_size = some (r, u)) : r = lb pl_holds x1 := by
  unfold f_X6_lowestBits B_X6_lowestBits_0 at h
  unfold lb
  by_cases c0 : pl_holds = 0
  · rw [if_pos c0]
    exact (congrArg Prod.fst (Option.some.inj (zk_t c0 h))).symm
  replace h := zk_f c0 h
  rw [if_neg c0]
  by_cases c1 : pl_holds = 1
  · rw [if_pos c1]
    exact (congrArg Prod.fst (Option.some.inj (zk_t c1 h))).symm
  replace h := zk_f c1 h
  rw [if_neg c1]
  by_cases c2 : pl_holds = 2
  · rw [if_pos c2]
    exact (congrArg Prod.fst (Option.some.inj (zk_t c2 h))).symm
  replace h := zk_f c2 h
  rw [if_neg c2]
  by_cases c3 : pl_holds = 3
  · rw [if_pos c3]
    exact (congrArg Prod.fst (Option.some.inj (zk_t c3 h))).symm
  replace h := zk_f c3 h
  rw [if_neg c3]
  by_cases c4 : pl_holds = 4
  · replace h := zk_t c4 h
    rw [if_pos c4]
    by_cases c5 : lg_cmp x1 0 = 0
    · rw [if_pos c5]
      exact (congrArg Prod.fst (Option.some.inj (zk_t c5 h))).symm
    · rw [if_neg c5]
      exact (congrArg Prod.fst (Option.some.inj (zk_f c5 h))).symm
  · rw [if_neg c4]
    exact (congrArg Prod.fst (Option.some.inj (zk_f c4 h))).symm
set_option maxHeartbeats 4000000 in
set_option maxRecDepth 20000 in
theorem p8_put {pl_suit : Int32} {pl_holds : Int32} {pl_size : Int32} {pl_elements : Nat → Int64} {root_places : Nat → Option Nat} {h_pl : Nat} {x1 x2 : Int32} {x3 : Int64} {R : Int32 × (Nat → Int64)} (hsz : 0 ≤ pl_size.toInt ∧ pl_size.toInt ≤ 60) (h : f_X11_put h_pl x1 x2 x3 root_places pl_holds pl_suit pl_size pl_elements = some R) : ((x1.toInt < 0 ∨ 6 ≤ x1.toInt) ∧ R = (-1, pl_elements)) ∨ ((0 ≤ x1.toInt ∧ x1.toInt ≤ 5) ∧ pl_holds.toInt = -1 ∧ R = (-11, pl_elements)) ∨ ((0 ≤ x1.toInt ∧ x1.toInt ≤ 5) ∧ pl_holds.toInt = 5 ∧ R = (-12, pl_elements)) ∨ ((0 ≤ x1.toInt ∧ x1.toInt ≤ 5) ∧ pl_holds.toInt ≠ -1 ∧ pl_holds.toInt ≠ 5 ∧ (x2.toInt < 0 ∨ pl_size.toInt ≤ x2.toInt) ∧ R = (-13, pl_elements)) ∨ ((0 ≤ x1.toInt ∧ x1.toInt ≤ 5) ∧ pl_holds.toInt ≠ -1 ∧ pl_holds.toInt ≠ 5 ∧ (0 ≤ x2.toInt ∧ x2.toInt < pl_size.toInt) ∧ R = (1, vp_updL pl_elements x2.toNatClampNeg (lb pl_holds x3))) := by
  unfold f_X11_put B_X11_put_0 at h
  replace h := zk_o2 h
  obtain ⟨r1, u1, a1, h⟩ := h
  unfold f_X11_placeAt B_X11_placeAt_0 at a1
  by_cases c1 : x1 < 0
  · have e := congrArg Prod.fst (Option.some.inj (zk_t c1 a1))
    dsimp only at e
    subst e
    replace h := Option.some.inj (zk_f (by decide) h)
    rw [i32_lt, z32_0] at c1
    exact Or.inl ⟨Or.inl c1, h.symm⟩
  have a1 := zk_f c1 a1
  by_cases c2 : (6 : Int32) ≤ x1
  · have e := congrArg Prod.fst (Option.some.inj (zk_t c2 a1))
    dsimp only at e
    subst e
    replace h := Option.some.inj (zk_f (by decide) h)
    rw [i32_le, z32L_6] at c2
    exact Or.inl ⟨Or.inr c2, h.symm⟩
  have a1 := zk_f c2 a1
  rw [i32_lt, z32_0] at c1
  rw [i32_le, z32L_6] at c2
  have hr : 0 ≤ x1.toInt ∧ x1.toInt ≤ 5 := by omega
  obtain ⟨_, a1⟩ := zk_gd a1
  obtain ⟨_, a1⟩ := zk_gd a1
  have e := congrArg Prod.fst (Option.some.inj a1)
  dsimp only at e
  subst e
  replace h := zk_t rfl h
  replace h := zk_o2 h
  obtain ⟨r5, u5, a2, h⟩ := h
  unfold f_X6_refusalOf B_X6_refusalOf_0 at a2
  by_cases c3 : pl_holds = (-1 : Int32)
  · have e := congrArg Prod.fst (Option.some.inj (zk_t c3 a2))
    dsimp only at e
    subst e
    replace h := Option.some.inj (zk_f (by decide) h)
    rw [i32_e, z32N_1] at c3
    exact Or.inr (Or.inl ⟨hr, c3, h.symm⟩)
  have a2 := zk_f c3 a2
  by_cases c4 : pl_holds = (5 : Int32)
  · have e := congrArg Prod.fst (Option.some.inj (zk_t c4 a2))
    dsimp only at e
    subst e
    replace h := Option.some.inj (zk_f (by decide) h)
    rw [i32_e, z32L_5] at c4
    exact Or.inr (Or.inr (Or.inl ⟨hr, c4, h.symm⟩))
  have a2 := zk_f c4 a2
  rw [i32_e, z32N_1] at c3
  rw [i32_e, z32L_5] at c4
  obtain ⟨r3, u3, a3, a2⟩ := zk_o2 a2
  have hg : ((x2.toInt < 0 ∨ pl_size.toInt ≤ x2.toInt) ∧ r3 = 0) ∨ ((0 ≤ x2.toInt ∧ x2.toInt < pl_size.toInt) ∧ r3 = 1) := by
    unfold f_X6_hasRange B_X6_hasRange_0 at a3
    by_cases d1 : x2 < 0
    · have e := (congrArg Prod.fst (Option.some.inj (zk_t d1 a3))).symm
      rw [i32_lt, z32_0] at d1
      exact Or.inl ⟨Or.inl d1, e⟩
    have a3 := zk_f d1 a3
    rw [i32_lt, z32_0] at d1
    have a3 := zk_f (show ¬ (1 : Int32) < 0 by decide) a3
    by_cases d2 : pl_size < x2
    · have e := (congrArg Prod.fst (Option.some.inj (zk_t d2 a3))).symm
      rw [i32_lt] at d2
      exact Or.inl ⟨Or.inr (by omega), e⟩
    have a3 := zk_f d2 a3
    rw [i32_lt] at d2
    have es : (pl_size - x2).toInt = pl_size.toInt - x2.toInt := i32_d (by omega) (by omega)
    by_cases d3 : (pl_size - x2) < (1 : Int32)
    · have e := (congrArg Prod.fst (Option.some.inj (zk_t d3 a3))).symm
      rw [i32_lt, es, z32_1] at d3
      exact Or.inl ⟨Or.inr (by omega), e⟩
    · have e := (congrArg Prod.fst (Option.some.inj (zk_f d3 a3))).symm
      rw [i32_lt, es, z32_1] at d3
      exact Or.inr ⟨by omega, e⟩
  rcases hg with ⟨g1, g2⟩ | ⟨g1, g2⟩
  · have e := congrArg Prod.fst (Option.some.inj (zk_t g2 a2))
    dsimp only at e
    subst e
    replace h := Option.some.inj (zk_f (by decide) h)
    exact Or.inr (Or.inr (Or.inr (Or.inl ⟨hr, c3, c4, g1, h.symm⟩)))
  · have e := congrArg Prod.fst (Option.some.inj (zk_f (by rw [g2]; decide) a2))
    dsimp only at e
    subst e
    replace h := zk_t (by decide) h
    replace h := zk_o2 h
    obtain ⟨r9, u9, a4, h⟩ := h
    have e9 := lb_e a4
    replace h := zk_gd h
    obtain ⟨_, h⟩ := h
    replace h := zk_lt h
    obtain ⟨w, ew, h⟩ := h
    replace h := Option.some.inj h
    rw [ew, e9] at h
    exact Or.inr (Or.inr (Or.inr (Or.inr ⟨hr, c3, c4, g1, h.symm⟩)))
set_option maxHeartbeats 4000000 in
set_option maxRecDepth 20000 in
theorem p12_put {mod_code : Int32} {court_shoeCount : Int32} {mod_claims : Int32} {ts : Int32} {at_ : Int32} {f : Int32} {court_suitCount : Int32} {mod_doneMany : Int32} {mod_undoneMany : Int32} {mod_open : Int32} {mod_laid : Int32} {mod_isBoth : Int32} {mod_wished : Int32} {mod_bestMany : Int32} {mod_bestRow : Int32} {mod_ringDigits : Int32} {mod_traces : Int32} {mod_holds : Nat → Int32} {mod_size : Nat → Int32} {mod_elements : Nat → Int64} {x1 x2 : Int32} {x3 : Int64} {Q : Int32 × (Nat → Int64)} (hsz : (0 ≤ x1.toInt ∧ x1.toInt ≤ 5) → 0 ≤ (mod_size x1.toNatClampNeg).toInt ∧ (mod_size x1.toNatClampNeg).toInt ≤ 60) (h : f_X12_put x1 x2 x3 mod_code court_shoeCount mod_claims ts at_ f court_suitCount mod_doneMany mod_undoneMany mod_open mod_laid mod_isBoth mod_wished mod_bestMany mod_bestRow mod_ringDigits mod_traces mod_holds mod_size mod_elements = some Q) : ((x1.toInt < 0 ∨ 6 ≤ x1.toInt) ∧ Q = (-1, mod_elements)) ∨ ((0 ≤ x1.toInt ∧ x1.toInt ≤ 5) ∧ (mod_holds x1.toNatClampNeg).toInt = -1 ∧ Q = (-11, mod_elements)) ∨ ((0 ≤ x1.toInt ∧ x1.toInt ≤ 5) ∧ 0 ≤ (mod_holds x1.toNatClampNeg).toInt ∧ Q = (-12, mod_elements)) ∨ ((0 ≤ x1.toInt ∧ x1.toInt ≤ 5) ∧ (mod_holds x1.toNatClampNeg).toInt ≠ -1 ∧ (mod_holds x1.toNatClampNeg).toInt < 0 ∧ (x2.toInt < 0 ∨ (mod_size x1.toNatClampNeg).toInt ≤ x2.toInt) ∧ Q = (-13, mod_elements)) ∨ ((0 ≤ x1.toInt ∧ x1.toInt ≤ 5) ∧ (mod_holds x1.toNatClampNeg).toInt ≠ -1 ∧ (mod_holds x1.toNatClampNeg).toInt < 0 ∧ (0 ≤ x2.toInt ∧ x2.toInt < (mod_size x1.toNatClampNeg).toInt) ∧ Q = (1, vp_updL mod_elements (((60 : Int32) * x1) + x2).toNatClampNeg (lm ((-2 : Int32) - (mod_holds x1.toNatClampNeg)) x3))) := by
  unfold f_X12_put B_X12_put_0 at h
  replace h := zk_o2 h
  obtain ⟨r1, u1, a1, h⟩ := h
  unfold f_X12_whyNoPlace B_X12_whyNoPlace_0 at a1
  obtain ⟨r2, u2, a2, a1⟩ := zk_o2 a1
  unfold f_X12_isShelf B_X12_isShelf_0 at a2
  rw [pe_in, pe_b2] at a2
  obtain ⟨_, a2⟩ := zk_gd a2
  have e2 := congrArg Prod.fst (Option.some.inj a2)
  dsimp only at e2
  by_cases c1 : x1 < 0 ∨ (5 : Int32) < x1
  · rw [if_pos c1] at e2
    have a1 := congrArg Prod.fst (Option.some.inj (zk_t e2.symm a1))
    dsimp only at a1
    subst a1
    replace h := Option.some.inj (zk_f (by decide) h)
    rw [i32_lt, i32_lt, z32_0, z32L_5] at c1
    exact Or.inl ⟨by omega, h.symm⟩
  rw [if_neg c1] at e2
  rw [i32_lt, i32_lt, z32_0, z32L_5] at c1
  have hr : 0 ≤ x1.toInt ∧ x1.toInt ≤ 5 := by omega
  have hs := hsz hr
  have a1 := zk_f (by rw [← e2]; decide) a1
  obtain ⟨_, a1⟩ := zk_gd a1
  by_cases c3 : mod_holds x1.toNatClampNeg = (-1 : Int32)
  · have e := congrArg Prod.fst (Option.some.inj (zk_t c3 a1))
    dsimp only at e
    subst e
    replace h := Option.some.inj (zk_f (by decide) h)
    rw [i32_e, z32N_1] at c3
    exact Or.inr (Or.inl ⟨hr, c3, h.symm⟩)
  have a1 := zk_f c3 a1
  rw [i32_e, z32N_1] at c3
  obtain ⟨_, a1⟩ := zk_gd a1
  by_cases c4 : mod_holds x1.toNatClampNeg < 0
  · have a1 := zk_t c4 a1
    rw [i32_lt, z32_0] at c4
    obtain ⟨_, a1⟩ := zk_gd a1
    obtain ⟨r3, u3, a3, a1⟩ := zk_o2 a1
    rw [pe_in] at a3
    have e3 := congrArg Prod.fst (Option.some.inj a3)
    dsimp only at e3
    have es := i32_m1 (a := mod_size x1.toNatClampNeg) (by omega)
    by_cases c5 : x2 < 0 ∨ mod_size x1.toNatClampNeg - 1 < x2
    · rw [if_pos c5] at e3
      have e := congrArg Prod.fst (Option.some.inj (zk_t e3.symm a1))
      dsimp only at e
      subst e
      replace h := Option.some.inj (zk_f (by decide) h)
      rw [i32_lt, i32_lt, z32_0, es] at c5
      exact Or.inr (Or.inr (Or.inr (Or.inl ⟨hr, c3, c4, by omega, h.symm⟩)))
    · rw [if_neg c5] at e3
      have e := congrArg Prod.fst (Option.some.inj (zk_f (by rw [← e3]; decide) a1))
      dsimp only at e
      subst e
      replace h := zk_t (by decide) h
      rw [i32_lt, i32_lt, z32_0, es] at c5
      replace h := zk_gd h
      obtain ⟨_, h⟩ := h
      replace h := zk_lt h
      obtain ⟨v, ev, h⟩ := h
      refine Or.inr (Or.inr (Or.inr (Or.inr ⟨hr, c3, c4, by omega, ?_⟩)))
      have fin : ∀ w : Int64, B_X12_put_95 mod_code court_shoeCount mod_claims ts at_ f court_suitCount mod_doneMany mod_undoneMany mod_open mod_laid mod_isBoth mod_wished mod_bestMany mod_bestRow mod_ringDigits mod_traces mod_holds mod_size w (((60 : Int32) * x1) + x2) mod_elements = some Q → Q = (1, vp_updL mod_elements (((60 : Int32) * x1) + x2).toNatClampNeg w) := fun w q => by
        unfold B_X12_put_95 at q
        obtain ⟨_, q⟩ := zk_gd q
        obtain ⟨y, ey, q⟩ := zk_lt q
        rw [← Option.some.inj q, ey]
      rw [← ev]
      unfold lm
      by_cases d0 : v = 0
      · rw [if_pos d0]
        exact fin _ (zk_t d0 h)
      replace h := zk_f d0 h
      rw [if_neg d0]
      by_cases d1 : v = 1
      · rw [if_pos d1]
        exact fin _ (zk_t d1 h)
      replace h := zk_f d1 h
      rw [if_neg d1]
      by_cases d2 : v = 2
      · rw [if_pos d2]
        exact fin _ (zk_t d2 h)
      replace h := zk_f d2 h
      rw [if_neg d2]
      by_cases d3 : v = 3
      · rw [if_pos d3]
        exact fin _ (zk_t d3 h)
      replace h := zk_f d3 h
      rw [if_neg d3]
      by_cases d4 : lg_cmp x3 0 = 0
      · rw [if_pos d4]
        exact fin _ (zk_t d4 h)
      · rw [if_neg d4]
        exact fin _ (zk_f d4 h)
  · have a1 := congrArg Prod.fst (Option.some.inj (zk_f c4 a1))
    dsimp only at a1
    subst a1
    replace h := Option.some.inj (zk_f (by decide) h)
    rw [i32_lt, z32_0] at c4
    exact Or.inr (Or.inr (Or.inl ⟨hr, by omega, h.symm⟩))
set_option maxHeartbeats 4000000 in
set_option maxRecDepth 20000 in
theorem pw_put {mod_code : Int32} {court_shoeCount : Int32} {mod_claims : Int32} {ts : Int32} {at_ : Int32} {f : Int32} {court_suitCount : Int32} {mod_doneMany : Int32} {mod_undoneMany : Int32} {mod_open : Int32} {mod_laid : Int32} {mod_isBoth : Int32} {mod_wished : Int32} {mod_bestMany : Int32} {mod_bestRow : Int32} {mod_ringDigits : Int32} {mod_traces : Int32} {mod_holds : Nat → Int32} {mod_size : Nat → Int32} {mod_elements : Nat → Int64} {pl_suit : Int32} {pl_holds : Int32} {pl_size : Int32} {pl_elements : Nat → Int64} {root_places : Nat → Option Nat} {x1 x2 : Int32} {x3 : Int64} {j h_pl : Nat} (hj : (¬ x1 < 0 ∧ ¬ 6 ≤ x1) → x1.toNatClampNeg = j) (hP : PLR court_suitCount j pl_holds pl_suit pl_size pl_elements mod_holds mod_size mod_elements) {R : Int32 × (Nat → Int64)} {Q : Int32 × (Nat → Int64)} (h : f_X11_put h_pl x1 x2 x3 root_places pl_holds pl_suit pl_size pl_elements = some R) (k : f_X12_put x1 x2 x3 mod_code court_shoeCount mod_claims ts at_ f court_suitCount mod_doneMany mod_undoneMany mod_open mod_laid mod_isBoth mod_wished mod_bestMany mod_bestRow mod_ringDigits mod_traces mod_holds mod_size mod_elements = some Q) : R.1 = Q.1 ∧ PLR court_suitCount j pl_holds pl_suit pl_size R.2 mod_holds mod_size Q.2 ∧ ∀ i, (i < 60 * j ∨ 60 * j + 60 ≤ i) → Q.2 i = mod_elements i := by
  have hm : (0 ≤ x1.toInt ∧ x1.toInt ≤ 5) → x1.toNatClampNeg = j := fun q => hj ⟨by rw [i32_lt, z32_0]; omega, by rw [i32_le, z32L_6]; omega⟩
  obtain ⟨⟨hs1, hs2, hs3⟩, he, hd⟩ := id hP
  have hz : pl_holds.toInt = -1 → pl_holds.toInt ≠ 5 := fun q => by omega
  rcases p8_put ⟨hs2, hs3⟩ h with ⟨a1, a2⟩ | ⟨a1, a2, a3⟩ | ⟨a1, a2, a3⟩ | ⟨a1, a2, a3, a4, a5⟩ | ⟨a1, a2, a3, a4, a5⟩ <;> rcases p12_put (fun q => by rw [hm q, hs1]; exact ⟨hs2, hs3⟩) k with ⟨b1, b2⟩ | ⟨b1, b2, b3⟩ | ⟨b1, b2, b3⟩ | ⟨b1, b2, b3, b4, b5⟩ | ⟨b1, b2, b3, b4, b5⟩
  · rw [a2, b2]
    exact ⟨rfl, hP, fun i hi => rfl⟩
  all_goals (have hmm := hm (by omega))
  all_goals (try rw [hmm] at b2)
  all_goals (try rw [hmm] at b3)
  all_goals (try rw [hmm] at b4)
  all_goals (try rw [hs1] at b4)
  all_goals first
  | (exfalso; omega)
  | (rw [a3, b3]; exact ⟨rfl, hP, fun i hi => rfl⟩)
  | (rw [a5, b5]; exact ⟨rfl, hP, fun i hi => rfl⟩)
  | skip
  have hv : lm ((-2 : Int32) - mod_holds x1.toNatClampNeg) x3 = lb pl_holds x3 := lb_lm (by omega) (by rw [hmm, i32_d (a := -2) (b := mod_holds j) (by decide) (by omega), z32N_2]; omega)
  have ex : x2.toNatClampNeg = x2.toInt.toNat := rfl
  rw [a5, b5, hv]
  refine ⟨rfl, PLR_put hP (by omega) (by rw [ix60 a1 (by omega), hmm]) rfl, fun i hi => updL_n (by rw [ix60 a1 (by omega), hmm]; omega)⟩
theorem i32_dd {a b : Int32} (h : 0 ≤ a.toInt ∧ a.toInt ≤ 100) (h2 : 0 ≤ b.toInt) : (a - b).toInt = a.toInt - b.toInt := by
  have := Int32.toInt_lt b
  rw [Int32.toInt_sub]
  exact zi_bm2 (by omega) (by omega)
theorem PLR_row {n hc su sz hc2 sz2 v : Int32} {j : Nat} {el el2 : Nat → Int64} {mh ms : Nat → Int32} {me me2 : Nat → Int64} (h : PLR n j hc su sz el mh ms me) (c : 0 ≤ hc2.toInt ∧ hc2.toInt ≤ 4 ∧ v.toInt = -2 - hc2.toInt) (c2 : 0 ≤ sz2.toInt ∧ sz2.toInt ≤ 60) (z1 : ∀ k, k < 60 → el2 k = 0) (z2 : ∀ k, 60 * j ≤ k → k < 60 * j + 60 → me2 k = 0) : PLR n j hc2 su sz2 el2 (upd mh j v) (upd ms j sz2) me2 := by
  refine ⟨⟨?_, c2⟩, fun k hk => by rw [z1 k hk, z2 _ (by omega) (by omega)], Or.inr (Or.inl ?_)⟩
  · unfold upd
    rw [if_pos rfl]
  · unfold upd
    rw [if_pos rfl]
    exact c
theorem e60n : (Int32.ofNat 60).toInt = 60 := by decide
set_option maxHeartbeats 4000000 in
set_option maxRecDepth 20000 in
theorem fz_loop  {v : Int64} : ∀ (n : Nat) (x3 x4 : Int32) (el R : Nat → Int64), x4.toInt = 60 → 0 ≤ x3.toInt → x3.toInt ≤ 60 → G_J7_fill_d0a16 60 n v x3 x4 el = some R → (∀ k, x3.toInt.toNat ≤ k → k < 60 → R k = v) ∧ (∀ k, k < x3.toInt.toNat → R k = el k) := by
  intro n
  induction n with
  | zero =>
    intro x3 x4 el R _ _ _ h
    cases h
  | succ n ih =>
    intro x3 x4 el R h4 h0 h1 h
    replace h : B_J7_fill_d0a16_6 (G_J7_fill_d0a16 60 n) 60 v x3 x4 el = some R := h
    unfold B_J7_fill_d0a16_6 at h
    by_cases c : x4 ≤ x3
    · replace h := Option.some.inj (zk_t c h)
      rw [i32_le] at c
      subst h
      exact ⟨fun k k1 k2 => by exfalso; omega, fun k _ => rfl⟩
    · replace h := zk_f c h
      rw [i32_le] at c
      replace h := zk_gd h
      obtain ⟨_, h⟩ := h
      replace h := zk_lt h
      obtain ⟨f1, e1, h⟩ := h
      replace h := zk_lt h
      obtain ⟨f2, e2, h⟩ := h
      subst e1
      subst e2
      have s3 := i32_s (a := x3) (by omega)
      obtain ⟨q1, q2⟩ := ih _ _ _ _ h4 (by omega) (by omega) h
      refine ⟨fun k k1 k2 => ?_, fun k k1 => ?_⟩
      · by_cases ck : k = x3.toInt.toNat
        · rw [q2 k (by omega)]
          unfold vp_updL
          rw [if_pos (ck.trans tcn.symm)]
        · exact q1 k (by omega) k2
      · rw [q2 k (by omega)]
        exact updL_n (by rw [tcn]; omega)
set_option maxHeartbeats 4000000 in
set_option maxRecDepth 20000 in
theorem fz_fill  {n : Nat} {v : Int64} {el R : Nat → Int64} (h : f_J7_fill_d0a16 n v el 60 = some R) : ∀ k, k < 60 → R k = v := by
  unfold f_J7_fill_d0a16 B_J7_fill_d0a16_0 at h
  replace h := zk_lt h
  obtain ⟨w, e, h⟩ := h
  subst e
  exact fun k hk => (fz_loop _ _ _ _ _ e60n (by decide) (by decide) h).1 k (by rw [z32_0]; exact Nat.zero_le _) hk
set_option maxHeartbeats 4000000 in
set_option maxRecDepth 20000 in
theorem rw_loop {mod_code : Int32} {court_shoeCount : Int32} {mod_claims : Int32} {ts : Int32} {at_ : Int32} {f : Int32} {court_suitCount : Int32} {mod_doneMany : Int32} {mod_undoneMany : Int32} {mod_open : Int32} {mod_laid : Int32} {mod_isBoth : Int32} {mod_wished : Int32} {mod_bestMany : Int32} {mod_bestRow : Int32} {mod_ringDigits : Int32} {mod_traces : Int32} {x1 : Int32} (hx5 : 0 ≤ x1.toInt ∧ x1.toInt ≤ 5) : ∀ (n : Nat) (x4 : Int32) (mod_holds mod_size : Nat → Int32) (mod_elements : Nat → Int64) (Q : Int32 × (Nat → Int32) × (Nat → Int32) × (Nat → Int64)), 60 * x1.toInt ≤ x4.toInt → x4.toInt ≤ 60 * x1.toInt + 60 → (∀ k, 60 * x1.toNatClampNeg ≤ k → k < x4.toInt.toNat → mod_elements k = 0) → G_X12_row mod_code court_shoeCount mod_claims ts at_ f court_suitCount mod_doneMany mod_undoneMany mod_open mod_laid mod_isBoth mod_wished mod_bestMany mod_bestRow mod_ringDigits mod_traces n x1 x4 mod_holds mod_size mod_elements = some Q → Q.1 = 1 ∧ Q.2.1 = mod_holds ∧ Q.2.2.1 = mod_size ∧ (∀ k, 60 * x1.toNatClampNeg ≤ k → k < 60 * x1.toNatClampNeg + 60 → Q.2.2.2 k = 0) ∧ (∀ k, (k < 60 * x1.toNatClampNeg ∨ 60 * x1.toNatClampNeg + 60 ≤ k) → Q.2.2.2 k = mod_elements k) := by
  have ex : x1.toNatClampNeg = x1.toInt.toNat := rfl
  have e60 : ((60 : Int32) * x1 + 60).toInt = 60 * x1.toInt + 60 := by
    rw [Int32.toInt_add, Int32.toInt_mul, z32L_60]
    rw [zi_bm2 (e := 60 * x1.toInt) (by omega) (by omega)]
    exact zi_bm2 (by omega) (by omega)
  intro n
  induction n with
  | zero =>
    intro x4 mod_holds mod_size mod_elements Q _ _ _ h
    cases h
  | succ n ih =>
    intro x4 mod_holds mod_size mod_elements Q h0 h1 hz h
    replace h : B_X12_row_54 (G_X12_row mod_code court_shoeCount mod_claims ts at_ f court_suitCount mod_doneMany mod_undoneMany mod_open mod_laid mod_isBoth mod_wished mod_bestMany mod_bestRow mod_ringDigits mod_traces n) mod_code court_shoeCount mod_claims ts at_ f court_suitCount mod_doneMany mod_undoneMany mod_open mod_laid mod_isBoth mod_wished mod_bestMany mod_bestRow mod_ringDigits mod_traces x1 x4 mod_holds mod_size mod_elements = some Q := h
    unfold B_X12_row_54 at h
    by_cases c : ((60 : Int32) * x1 + 60) ≤ x4
    · replace h := Option.some.inj (zk_t c h)
      rw [i32_le, e60] at c
      subst h
      exact ⟨rfl, rfl, rfl, fun k k1 k2 => hz k k1 (by omega), fun k _ => rfl⟩
    · replace h := zk_f c h
      rw [i32_le, e60] at c
      replace h := zk_gd h
      obtain ⟨_, h⟩ := h
      replace h := zk_lt h
      obtain ⟨f1, e1, h⟩ := h
      replace h := zk_lt h
      obtain ⟨f2, e2, h⟩ := h
      subst e1
      subst e2
      have s3 := i32_s (a := x4) (by omega)
      have e4 : x4.toNatClampNeg = x4.toInt.toNat := rfl
      obtain ⟨q1, q2, q3, q4, q5⟩ := ih _ _ _ _ Q (by omega) (by omega) (fun k k1 k2 => by
        unfold vp_updL
        by_cases ck : k = x4.toNatClampNeg
        · rw [if_pos ck]
        · rw [if_neg ck]
          exact hz k k1 (by omega)) h
      exact ⟨q1, q2, q3, q4, fun k k1 => by rw [q5 k k1]; exact updL_n (by omega)⟩
set_option maxHeartbeats 4000000 in
set_option maxRecDepth 20000 in
theorem pw_row {mod_code : Int32} {court_shoeCount : Int32} {mod_claims : Int32} {ts : Int32} {at_ : Int32} {f : Int32} {court_suitCount : Int32} {mod_doneMany : Int32} {mod_undoneMany : Int32} {mod_open : Int32} {mod_laid : Int32} {mod_isBoth : Int32} {mod_wished : Int32} {mod_bestMany : Int32} {mod_bestRow : Int32} {mod_ringDigits : Int32} {mod_traces : Int32} {mod_holds : Nat → Int32} {mod_size : Nat → Int32} {mod_elements : Nat → Int64} {pl_suit : Int32} {pl_holds : Int32} {pl_size : Int32} {pl_elements : Nat → Int64} {root_places : Nat → Option Nat} {m : Nat} {x1 x2 x3 : Int32} {j h_pl : Nat} (hj : (¬ x1 < 0 ∧ ¬ 6 ≤ x1) → x1.toNatClampNeg = j) (hP : PLR court_suitCount j pl_holds pl_suit pl_size pl_elements mod_holds mod_size mod_elements) {R : Int32 × Int32 × Int32 × (Nat → Int64)} {Q : Int32 × (Nat → Int32) × (Nat → Int32) × (Nat → Int64)} (h : f_X11_row h_pl x1 x2 x3 root_places pl_holds pl_suit pl_size pl_elements = some R) (k : f_X12_row m x1 x2 x3 mod_code court_shoeCount mod_claims ts at_ f court_suitCount mod_doneMany mod_undoneMany mod_open mod_laid mod_isBoth mod_wished mod_bestMany mod_bestRow mod_ringDigits mod_traces mod_holds mod_size mod_elements = some Q) : R.1 = Q.1 ∧ PLR court_suitCount j R.2.1 pl_suit R.2.2.1 R.2.2.2 Q.2.1 Q.2.2.1 Q.2.2.2 ∧ (∀ i, i ≠ j → Q.2.1 i = mod_holds i ∧ Q.2.2.1 i = mod_size i) ∧ (∀ i, (i < 60 * j ∨ 60 * j + 60 ≤ i) → Q.2.2.2 i = mod_elements i) := by
  unfold f_X11_row at h
  unfold f_X12_row at k
  unfold B_X11_row_0 at h
  replace h := zk_o2 h
  obtain ⟨cv1, cv2, ch3, h⟩ := h
  unfold f_X11_placeAt at ch3
  unfold B_X11_placeAt_0 at ch3
  by_cases cc4 : x1 < 0
  · have ch3 := zk_t cc4 ch3
    have cc4n := cc4
    (try simp only [i32_lt, i32_le, i32_e, z32_0, z32_1] at cc4n)
    first
    | (exfalso; omega)
    | simp only [Option.some.injEq, Prod.mk.injEq] at ch3
      obtain ⟨rfl, _⟩ := ch3
      replace h := zk_f (by decide) h
      unfold B_X12_row_0 at k
      replace k := zk_o2 k
      obtain ⟨mv1, mv2, mh3, k⟩ := k
      unfold f_X12_isShelf at mh3
      unfold B_X12_isShelf_0 at mh3
      obtain ⟨mv4, mv5, mh6, mh3⟩ := zk_o2 mh3
      unfold f_X12_in at mh6
      unfold B_X12_in_0 at mh6
      have mh6 := zk_t cc4 mh6
      simp only [Option.some.injEq, Prod.mk.injEq] at mh6
      obtain ⟨rfl, _⟩ := mh6
      obtain ⟨_, mh3⟩ := zk_gd mh3
      simp only [Option.some.injEq, Prod.mk.injEq] at mh3
      obtain ⟨rfl, _⟩ := mh3
      replace k := zk_t rfl k
      replace h := Option.some.inj h
      replace k := Option.some.inj k
      subst h
      subst k
      try dsimp only
      all_goals first
      | exact ⟨rfl, hP, fun i hi => ⟨rfl, rfl⟩, fun i hi => rfl⟩
      | (exfalso; omega)
  · have ch3 := zk_f cc4 ch3
    have cc4n := cc4
    (try simp only [i32_lt, i32_le, i32_e, z32_0, z32_1] at cc4n)
    first
    | (exfalso; omega)
    | by_cases cc5 : (6 : Int32) ≤ x1
      · have ch3 := zk_t cc5 ch3
        have cc5n := cc5
        (try simp only [i32_lt, i32_le, i32_e, z32_0, z32_1, z32L_6] at cc5n)
        first
        | (exfalso; omega)
        | simp only [Option.some.injEq, Prod.mk.injEq] at ch3
          obtain ⟨rfl, _⟩ := ch3
          replace h := zk_f (by decide) h
          unfold B_X12_row_0 at k
          replace k := zk_o2 k
          obtain ⟨mv7, mv8, mh9, k⟩ := k
          unfold f_X12_isShelf at mh9
          unfold B_X12_isShelf_0 at mh9
          obtain ⟨mv10, mv11, mh12, mh9⟩ := zk_o2 mh9
          unfold f_X12_in at mh12
          unfold B_X12_in_0 at mh12
          have mh12 := zk_f cc4 mh12
          have mh12 := zk_t (by (try simp only [i32_lt, i32_le, i32_e, z32_0, z32_1, z32L_5]); omega) mh12
          simp only [Option.some.injEq, Prod.mk.injEq] at mh12
          obtain ⟨rfl, _⟩ := mh12
          obtain ⟨_, mh9⟩ := zk_gd mh9
          simp only [Option.some.injEq, Prod.mk.injEq] at mh9
          obtain ⟨rfl, _⟩ := mh9
          replace k := zk_t rfl k
          replace h := Option.some.inj h
          replace k := Option.some.inj k
          subst h
          subst k
          try dsimp only
          all_goals first
          | exact ⟨rfl, hP, fun i hi => ⟨rfl, rfl⟩, fun i hi => rfl⟩
          | (exfalso; omega)
      · have ch3 := zk_f cc5 ch3
        have cc5n := cc5
        (try simp only [i32_lt, i32_le, i32_e, z32_0, z32_1, z32L_6] at cc5n)
        first
        | (exfalso; omega)
        | obtain ⟨_, ch3⟩ := zk_gd ch3
          obtain ⟨_, ch3⟩ := zk_gd ch3
          simp only [Option.some.injEq, Prod.mk.injEq] at ch3
          obtain ⟨rfl, _⟩ := ch3
          replace h := zk_t (by decide) h
          by_cases cc6 : x2 < 0
          · replace h := zk_t cc6 h
            have cc6n := cc6
            (try simp only [i32_lt, i32_le, i32_e, z32_0, z32_1] at cc6n)
            first
            | (exfalso; omega)
            | have hjj := hj ⟨cc4, cc5⟩
              subst hjj
              obtain ⟨⟨hs1, hs2, hs3⟩, he, hd⟩ := id hP
              have hx5 : 0 ≤ x1.toInt ∧ x1.toInt ≤ 5 := by
                have q1 := cc4
                have q2 := cc5
                rw [i32_lt, z32_0] at q1
                rw [i32_le, z32L_6] at q2
                omega
              have hsz := i32_m1 (a := mod_size x1.toNatClampNeg) (by rw [hs1]; omega)
              have hsz2 : (mod_size x1.toNatClampNeg).toInt = pl_size.toInt := by rw [hs1]
              unfold B_X12_row_0 at k
              replace k := zk_o2 k
              obtain ⟨mv13, mv14, mh15, k⟩ := k
              unfold f_X12_isShelf at mh15
              unfold B_X12_isShelf_0 at mh15
              obtain ⟨mv16, mv17, mh18, mh15⟩ := zk_o2 mh15
              unfold f_X12_in at mh18
              unfold B_X12_in_0 at mh18
              have mh18 := zk_f cc4 mh18
              have mh18 := zk_f (by (try simp only [i32_lt, i32_le, i32_e, z32_0, z32_1, z32L_5]); omega) mh18
              simp only [Option.some.injEq, Prod.mk.injEq] at mh18
              obtain ⟨rfl, _⟩ := mh18
              obtain ⟨_, mh15⟩ := zk_gd mh15
              simp only [Option.some.injEq, Prod.mk.injEq] at mh15
              obtain ⟨rfl, _⟩ := mh15
              replace k := zk_f (by decide) k
              replace k := zk_o2 k
              obtain ⟨mv19, mv20, mh21, k⟩ := k
              unfold f_X12_in at mh21
              unfold B_X12_in_0 at mh21
              have mh21 := zk_t cc6 mh21
              simp only [Option.some.injEq, Prod.mk.injEq] at mh21
              obtain ⟨rfl, _⟩ := mh21
              replace k := zk_t rfl k
              replace h := Option.some.inj h
              replace k := Option.some.inj k
              subst h
              subst k
              try dsimp only
              all_goals first
              | exact ⟨rfl, hP, fun i hi => ⟨rfl, rfl⟩, fun i hi => rfl⟩
              | (exfalso; omega)
          · replace h := zk_f cc6 h
            have cc6n := cc6
            (try simp only [i32_lt, i32_le, i32_e, z32_0, z32_1] at cc6n)
            first
            | (exfalso; omega)
            | by_cases cc7 : (4 : Int32) < x2
              · replace h := zk_t cc7 h
                have cc7n := cc7
                (try simp only [i32_lt, i32_le, i32_e, z32_0, z32_1, z32L_4] at cc7n)
                first
                | (exfalso; omega)
                | have hjj := hj ⟨cc4, cc5⟩
                  subst hjj
                  obtain ⟨⟨hs1, hs2, hs3⟩, he, hd⟩ := id hP
                  have hx5 : 0 ≤ x1.toInt ∧ x1.toInt ≤ 5 := by
                    have q1 := cc4
                    have q2 := cc5
                    rw [i32_lt, z32_0] at q1
                    rw [i32_le, z32L_6] at q2
                    omega
                  have hsz := i32_m1 (a := mod_size x1.toNatClampNeg) (by rw [hs1]; omega)
                  have hsz2 : (mod_size x1.toNatClampNeg).toInt = pl_size.toInt := by rw [hs1]
                  unfold B_X12_row_0 at k
                  replace k := zk_o2 k
                  obtain ⟨mv22, mv23, mh24, k⟩ := k
                  unfold f_X12_isShelf at mh24
                  unfold B_X12_isShelf_0 at mh24
                  obtain ⟨mv25, mv26, mh27, mh24⟩ := zk_o2 mh24
                  unfold f_X12_in at mh27
                  unfold B_X12_in_0 at mh27
                  have mh27 := zk_f cc4 mh27
                  have mh27 := zk_f (by (try simp only [i32_lt, i32_le, i32_e, z32_0, z32_1, z32L_5]); omega) mh27
                  simp only [Option.some.injEq, Prod.mk.injEq] at mh27
                  obtain ⟨rfl, _⟩ := mh27
                  obtain ⟨_, mh24⟩ := zk_gd mh24
                  simp only [Option.some.injEq, Prod.mk.injEq] at mh24
                  obtain ⟨rfl, _⟩ := mh24
                  replace k := zk_f (by decide) k
                  replace k := zk_o2 k
                  obtain ⟨mv28, mv29, mh30, k⟩ := k
                  unfold f_X12_in at mh30
                  unfold B_X12_in_0 at mh30
                  have mh30 := zk_f cc6 mh30
                  have mh30 := zk_t cc7 mh30
                  simp only [Option.some.injEq, Prod.mk.injEq] at mh30
                  obtain ⟨rfl, _⟩ := mh30
                  replace k := zk_t rfl k
                  replace h := Option.some.inj h
                  replace k := Option.some.inj k
                  subst h
                  subst k
                  try dsimp only
                  all_goals first
                  | exact ⟨rfl, hP, fun i hi => ⟨rfl, rfl⟩, fun i hi => rfl⟩
                  | (exfalso; omega)
              · replace h := zk_f cc7 h
                have cc7n := cc7
                (try simp only [i32_lt, i32_le, i32_e, z32_0, z32_1, z32L_4] at cc7n)
                first
                | (exfalso; omega)
                | by_cases cc8 : x3 ≤ (60 : Int32)
                  · replace h := zk_t cc8 h
                    have cc8n := cc8
                    (try simp only [i32_lt, i32_le, i32_e, z32_0, z32_1, z32L_60] at cc8n)
                    first
                    | (exfalso; omega)
                    | by_cases cc9 : 0 ≤ x3
                      · replace h := zk_t cc9 h
                        have cc9n := cc9
                        (try simp only [i32_lt, i32_le, i32_e, z32_0, z32_1] at cc9n)
                        first
                        | (exfalso; omega)
                        | obtain ⟨cv10, cv11, cv12, ch13, h⟩ := zk_o3 h
                          unfold f_X6_becomeRow at ch13
                          unfold B_X6_becomeRow_0 at ch13
                          obtain ⟨cv14, ch15, ch13⟩ := zk_o1 ch13
                          obtain hfz := fz_fill ch15
                          simp only [Option.some.injEq, Prod.mk.injEq] at ch13
                          obtain ⟨rfl, rfl, rfl⟩ := ch13
                          have hjj := hj ⟨cc4, cc5⟩
                          subst hjj
                          obtain ⟨⟨hs1, hs2, hs3⟩, he, hd⟩ := id hP
                          have hx5 : 0 ≤ x1.toInt ∧ x1.toInt ≤ 5 := by
                            have q1 := cc4
                            have q2 := cc5
                            rw [i32_lt, z32_0] at q1
                            rw [i32_le, z32L_6] at q2
                            omega
                          have hsz := i32_m1 (a := mod_size x1.toNatClampNeg) (by rw [hs1]; omega)
                          have hsz2 : (mod_size x1.toNatClampNeg).toInt = pl_size.toInt := by rw [hs1]
                          unfold B_X12_row_0 at k
                          replace k := zk_o2 k
                          obtain ⟨mv31, mv32, mh33, k⟩ := k
                          unfold f_X12_isShelf at mh33
                          unfold B_X12_isShelf_0 at mh33
                          obtain ⟨mv34, mv35, mh36, mh33⟩ := zk_o2 mh33
                          unfold f_X12_in at mh36
                          unfold B_X12_in_0 at mh36
                          have mh36 := zk_f cc4 mh36
                          have mh36 := zk_f (by (try simp only [i32_lt, i32_le, i32_e, z32_0, z32_1, z32L_5]); omega) mh36
                          simp only [Option.some.injEq, Prod.mk.injEq] at mh36
                          obtain ⟨rfl, _⟩ := mh36
                          obtain ⟨_, mh33⟩ := zk_gd mh33
                          simp only [Option.some.injEq, Prod.mk.injEq] at mh33
                          obtain ⟨rfl, _⟩ := mh33
                          replace k := zk_f (by decide) k
                          replace k := zk_o2 k
                          obtain ⟨mv37, mv38, mh39, k⟩ := k
                          unfold f_X12_in at mh39
                          unfold B_X12_in_0 at mh39
                          have mh39 := zk_f cc6 mh39
                          have mh39 := zk_f cc7 mh39
                          simp only [Option.some.injEq, Prod.mk.injEq] at mh39
                          obtain ⟨rfl, _⟩ := mh39
                          replace k := zk_f (by decide) k
                          replace k := zk_t cc8 k
                          replace k := zk_t cc9 k
                          replace k := zk_lt k
                          obtain ⟨mv40, me41, k⟩ := k
                          subst me41
                          replace k := zk_gd k
                          obtain ⟨_, k⟩ := k
                          replace k := zk_lt k
                          obtain ⟨mv42, me43, k⟩ := k
                          subst me43
                          replace k := zk_gd k
                          obtain ⟨_, k⟩ := k
                          replace k := zk_lt k
                          obtain ⟨mv44, me45, k⟩ := k
                          subst me45
                          replace k := zk_lt k
                          obtain ⟨mv46, me47, k⟩ := k
                          subst me47
                          replace h := Option.some.inj h
                          subst h
                          have ex : x1.toNatClampNeg = x1.toInt.toNat := rfl
                          have e6 : ((60 : Int32) * x1).toInt = 60 * x1.toInt := by
                            rw [Int32.toInt_mul, z32L_60]
                            exact zi_bm2 (by omega) (by omega)
                          obtain ⟨w1, w2, w3, w4, w5⟩ := rw_loop hx5 _ _ _ _ _ Q (by omega) (by omega) (fun k k1 k2 => by exfalso; omega) k
                          refine ⟨w1.symm, ?_, fun i hi => ⟨by rw [w2]; exact upd_n hi, by rw [w3]; exact upd_n hi⟩, fun i hi => w5 i hi⟩
                          try dsimp only
                          rw [w2, w3]
                          exact PLR_row hP ⟨by omega, by omega, by rw [i32_d (by decide) (by omega), z32N_2]⟩ ⟨by omega, by omega⟩ hfz w4
                      · replace h := zk_f cc9 h
                        have cc9n := cc9
                        (try simp only [i32_lt, i32_le, i32_e, z32_0, z32_1] at cc9n)
                        first
                        | (exfalso; omega)
                        | have hjj := hj ⟨cc4, cc5⟩
                          subst hjj
                          obtain ⟨⟨hs1, hs2, hs3⟩, he, hd⟩ := id hP
                          have hx5 : 0 ≤ x1.toInt ∧ x1.toInt ≤ 5 := by
                            have q1 := cc4
                            have q2 := cc5
                            rw [i32_lt, z32_0] at q1
                            rw [i32_le, z32L_6] at q2
                            omega
                          have hsz := i32_m1 (a := mod_size x1.toNatClampNeg) (by rw [hs1]; omega)
                          have hsz2 : (mod_size x1.toNatClampNeg).toInt = pl_size.toInt := by rw [hs1]
                          unfold B_X12_row_0 at k
                          replace k := zk_o2 k
                          obtain ⟨mv48, mv49, mh50, k⟩ := k
                          unfold f_X12_isShelf at mh50
                          unfold B_X12_isShelf_0 at mh50
                          obtain ⟨mv51, mv52, mh53, mh50⟩ := zk_o2 mh50
                          unfold f_X12_in at mh53
                          unfold B_X12_in_0 at mh53
                          have mh53 := zk_f cc4 mh53
                          have mh53 := zk_f (by (try simp only [i32_lt, i32_le, i32_e, z32_0, z32_1, z32L_5]); omega) mh53
                          simp only [Option.some.injEq, Prod.mk.injEq] at mh53
                          obtain ⟨rfl, _⟩ := mh53
                          obtain ⟨_, mh50⟩ := zk_gd mh50
                          simp only [Option.some.injEq, Prod.mk.injEq] at mh50
                          obtain ⟨rfl, _⟩ := mh50
                          replace k := zk_f (by decide) k
                          replace k := zk_o2 k
                          obtain ⟨mv54, mv55, mh56, k⟩ := k
                          unfold f_X12_in at mh56
                          unfold B_X12_in_0 at mh56
                          have mh56 := zk_f cc6 mh56
                          have mh56 := zk_f cc7 mh56
                          simp only [Option.some.injEq, Prod.mk.injEq] at mh56
                          obtain ⟨rfl, _⟩ := mh56
                          replace k := zk_f (by decide) k
                          replace k := zk_t cc8 k
                          replace k := zk_f cc9 k
                          replace h := Option.some.inj h
                          replace k := Option.some.inj k
                          subst h
                          subst k
                          try dsimp only
                          all_goals first
                          | exact ⟨rfl, hP, fun i hi => ⟨rfl, rfl⟩, fun i hi => rfl⟩
                          | (exfalso; omega)
                  · replace h := zk_f cc8 h
                    have cc8n := cc8
                    (try simp only [i32_lt, i32_le, i32_e, z32_0, z32_1, z32L_60] at cc8n)
                    first
                    | (exfalso; omega)
                    | have hjj := hj ⟨cc4, cc5⟩
                      subst hjj
                      obtain ⟨⟨hs1, hs2, hs3⟩, he, hd⟩ := id hP
                      have hx5 : 0 ≤ x1.toInt ∧ x1.toInt ≤ 5 := by
                        have q1 := cc4
                        have q2 := cc5
                        rw [i32_lt, z32_0] at q1
                        rw [i32_le, z32L_6] at q2
                        omega
                      have hsz := i32_m1 (a := mod_size x1.toNatClampNeg) (by rw [hs1]; omega)
                      have hsz2 : (mod_size x1.toNatClampNeg).toInt = pl_size.toInt := by rw [hs1]
                      unfold B_X12_row_0 at k
                      replace k := zk_o2 k
                      obtain ⟨mv57, mv58, mh59, k⟩ := k
                      unfold f_X12_isShelf at mh59
                      unfold B_X12_isShelf_0 at mh59
                      obtain ⟨mv60, mv61, mh62, mh59⟩ := zk_o2 mh59
                      unfold f_X12_in at mh62
                      unfold B_X12_in_0 at mh62
                      have mh62 := zk_f cc4 mh62
                      have mh62 := zk_f (by (try simp only [i32_lt, i32_le, i32_e, z32_0, z32_1, z32L_5]); omega) mh62
                      simp only [Option.some.injEq, Prod.mk.injEq] at mh62
                      obtain ⟨rfl, _⟩ := mh62
                      obtain ⟨_, mh59⟩ := zk_gd mh59
                      simp only [Option.some.injEq, Prod.mk.injEq] at mh59
                      obtain ⟨rfl, _⟩ := mh59
                      replace k := zk_f (by decide) k
                      replace k := zk_o2 k
                      obtain ⟨mv63, mv64, mh65, k⟩ := k
                      unfold f_X12_in at mh65
                      unfold B_X12_in_0 at mh65
                      have mh65 := zk_f cc6 mh65
                      have mh65 := zk_f cc7 mh65
                      simp only [Option.some.injEq, Prod.mk.injEq] at mh65
                      obtain ⟨rfl, _⟩ := mh65
                      replace k := zk_f (by decide) k
                      replace k := zk_f cc8 k
                      replace h := Option.some.inj h
                      replace k := Option.some.inj k
                      subst h
                      subst k
                      try dsimp only
                      all_goals first
                      | exact ⟨rfl, hP, fun i hi => ⟨rfl, rfl⟩, fun i hi => rfl⟩
                      | (exfalso; omega)
