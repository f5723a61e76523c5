

/-! THE CLAIM OUT OF ONE WALK OF THE LAW'S BODY. Your part is whole_start (and what it stands on); all else here is the same for every law, but numbers. -/
def R_law : String := "AlreadyJudgedLaw"
def lw_P (b : Addr) (xs : List Int32) (args : Array Value) (s : State) : Prop := args = #[.ref b] ∧ s.IntsAt b xs ∧ xs.length ≤ 3072 ∧ (Jvm.Cond.and given_1 narrow_1).before args s = true
def lw_Q (_ : Array Value) (s : State) (o : Outcome) (t : State) : Prop := o = .returned (some (.int 1)) ∧ Framed s o t [] 600000 7302250
def lw_Z (below : List Frame) (a : Array Value) (s : State) : State → Prop := fun t => ∃ o, t.status = .running ∧ Ended t below o ∧ lw_Q a s o t
/-- the law's own end, with 1 on the stack, nothing written that was there before, its room as the claim has it -/
theorem lw_ret {p : Program} {l : Launch} {e : Env} {s : State} {m : MethodId} {below : List Frame} {meth : Method} {c : Code} {b : Nat} (hx : p.tables.exec = Jvm.exec) (hb : c.code = code) (hr : meth.sig.returnType = ret) (hlocks : meth.locks = false) {pc : Nat} {H : Heap} {ls : Array Slot} (hdg : decode code pc = .ok (.ireturn, 1)) : W p l e room_1 s m #[Value.ref b] below meth c H [] 600000 7302250 (lw_Z below #[Value.ref b] s) (F0 m pc ls [.int 1]) := by
  intro T hT X
  obtain ⟨fs, hret, hrun, hended, hW, hframe⟩ := X.leave (v := some (.int 1)) (hlocks := hlocks) (fun h => by rw [hr] at h; cases h)
  have hmeth' : T.vm.method? m = some meth := X.method'
  refine ⟨T.setFrames fs, ?_, .returned (some (.int 1)), hrun, hended, rfl, ⟨_, rfl⟩, hW, hframe⟩
  jvm_step X.here [X.here.top, hx, hb, hdg, hmeth', hr, ret, narrow_b1]
  (try refine ⟨rfl, ?_⟩); (try refine ⟨rfl, ?_⟩)
  first | (intro acts; rw [hret _ acts rfl rfl rfl]) | rw [hret _ _ rfl rfl rfl]
  exact Steps.refl _
/-- what holds at the law's entry: the machine, the code, the tables' words (any of lw_tbl by 'hts w (by decide +kernel)'), the script of L ints xs at the cell b, what the Statement gives of the start (any of its parts by flat_of_before) -/
def lw_At (p : Program) (s : State) (m : MethodId) (meth : Method) (c : Code) (b L : Nat) (xs : Nat → Int32) : Prop :=
  p.tables.exec = Jvm.exec ∧ c.code = code ∧ meth.sig.returnType = ret ∧ c.maxLocals = 4 ∧ s.vm.findClass R_law = some m.cls ∧ (∀ w ∈ lw_tbl, w.before #[Value.ref b] s = true) ∧ va_X b L xs s s.heap ∧ b < s.heap.size ∧ meth.locks = false ∧ (Jvm.Cond.and given_1 narrow_1).before #[Value.ref b] s = true

abbrev cL_law : ByteArray := code
theorem kw_730 : Cond.methodLink R_law 13 yX11_shoe ∈ zW := zwC (i := 176) zc_3 rfl rfl
theorem kw_731 : Cond.instanceMethod yX11_shoe ∈ zW := zwC (i := 177) zc_3 rfl rfl
theorem kw_732 : Cond.selects RX11 yX11_shoe yX11_shoe ∈ zW := zwC (i := 178) zc_3 rfl rfl
theorem kw_733 : Cond.code yX11_shoe cX11_shoe 5 (some .int) ∈ zW := zwC (i := 179) zc_3 rfl rfl
theorem kw_744 : Cond.methodLink R_law 18 yX11_shoes ∈ zW := zwC (i := 190) zc_3 rfl rfl
theorem kw_745 : Cond.instanceMethod yX11_shoes ∈ zW := zwC (i := 191) zc_3 rfl rfl
theorem kw_746 : Cond.selects RX11 yX11_shoes yX11_shoes ∈ zW := zwC (i := 192) zc_3 rfl rfl
theorem kw_747 : Cond.code yX11_shoes cX11_shoes 7 (some .int) ∈ zW := zwC (i := 193) zc_3 rfl rfl
theorem kw_761 : Cond.methodLink R_law 23 yX11_ofShoe ∈ zW := zwC (i := 207) zc_3 rfl rfl
theorem kw_762 : Cond.instanceMethod yX11_ofShoe ∈ zW := zwC (i := 208) zc_3 rfl rfl
theorem kw_763 : Cond.selects RX11 yX11_ofShoe yX11_ofShoe ∈ zW := zwC (i := 209) zc_3 rfl rfl
theorem kw_764 : Cond.code yX11_ofShoe cX11_ofShoe 3 (some .int) ∈ zW := zwC (i := 210) zc_3 rfl rfl
theorem kw_769 : Cond.methodLink R_law 28 yX11_moveShoe ∈ zW := zwC (i := 215) zc_3 rfl rfl
theorem kw_770 : Cond.instanceMethod yX11_moveShoe ∈ zW := zwC (i := 216) zc_3 rfl rfl
theorem kw_771 : Cond.selects RX11 yX11_moveShoe yX11_moveShoe ∈ zW := zwC (i := 217) zc_3 rfl rfl
theorem kw_772 : Cond.code yX11_moveShoe cX11_moveShoe 4 (some .int) ∈ zW := zwC (i := 218) zc_3 rfl rfl
theorem kw_790 : Cond.methodLink R_law 32 yX11_bound ∈ zW := zwC (i := 236) zc_3 rfl rfl
theorem kw_791 : Cond.instanceMethod yX11_bound ∈ zW := zwC (i := 237) zc_3 rfl rfl
theorem kw_792 : Cond.selects RX11 yX11_bound yX11_bound ∈ zW := zwC (i := 238) zc_3 rfl rfl
theorem kw_793 : Cond.code yX11_bound cX11_bound 6 (some .int) ∈ zW := zwC (i := 239) zc_3 rfl rfl
theorem kw_842 : Cond.methodLink R_law 36 yX11_claim ∈ zW := zwC (i := 48) zc_4 rfl rfl
theorem kw_843 : Cond.instanceMethod yX11_claim ∈ zW := zwC (i := 49) zc_4 rfl rfl
theorem kw_844 : Cond.selects RX11 yX11_claim yX11_claim ∈ zW := zwC (i := 50) zc_4 rfl rfl
theorem kw_845 : Cond.code yX11_claim cX11_claim 4 (some .int) ∈ zW := zwC (i := 51) zc_4 rfl rfl
theorem kw_850 : Cond.methodLink R_law 40 yX11_ofClaim ∈ zW := zwC (i := 56) zc_4 rfl rfl
theorem kw_851 : Cond.instanceMethod yX11_ofClaim ∈ zW := zwC (i := 57) zc_4 rfl rfl
theorem kw_852 : Cond.selects RX11 yX11_ofClaim yX11_ofClaim ∈ zW := zwC (i := 58) zc_4 rfl rfl
theorem kw_853 : Cond.code yX11_ofClaim cX11_ofClaim 3 (some .int) ∈ zW := zwC (i := 59) zc_4 rfl rfl
theorem kw_858 : Cond.methodLink R_law 44 yX11_feed ∈ zW := zwC (i := 64) zc_4 rfl rfl
theorem kw_859 : Cond.instanceMethod yX11_feed ∈ zW := zwC (i := 65) zc_4 rfl rfl
theorem kw_860 : Cond.selects RX11 yX11_feed yX11_feed ∈ zW := zwC (i := 66) zc_4 rfl rfl
theorem kw_861 : Cond.code yX11_feed cX11_feed 4 (some .int) ∈ zW := zwC (i := 67) zc_4 rfl rfl
theorem kw_863 : Cond.methodLink R_law 48 yX11_suit ∈ zW := zwC (i := 69) zc_4 rfl rfl
theorem kw_864 : Cond.instanceMethod yX11_suit ∈ zW := zwC (i := 70) zc_4 rfl rfl
theorem kw_865 : Cond.selects RX11 yX11_suit yX11_suit ∈ zW := zwC (i := 71) zc_4 rfl rfl
theorem kw_866 : Cond.code yX11_suit cX11_suit 2 (some .int) ∈ zW := zwC (i := 72) zc_4 rfl rfl
theorem kw_935 : Cond.methodLink R_law 53 yX11_ofSuit ∈ zW := zwC (i := 141) zc_4 rfl rfl
theorem kw_936 : Cond.instanceMethod yX11_ofSuit ∈ zW := zwC (i := 142) zc_4 rfl rfl
theorem kw_937 : Cond.selects RX11 yX11_ofSuit yX11_ofSuit ∈ zW := zwC (i := 143) zc_4 rfl rfl
theorem kw_938 : Cond.code yX11_ofSuit cX11_ofSuit 4 (some .int) ∈ zW := zwC (i := 144) zc_4 rfl rfl
theorem kw_962 : Cond.methodLink R_law 57 yX11_won ∈ zW := zwC (i := 168) zc_4 rfl rfl
theorem kw_963 : Cond.instanceMethod yX11_won ∈ zW := zwC (i := 169) zc_4 rfl rfl
theorem kw_964 : Cond.selects RX11 yX11_won yX11_won ∈ zW := zwC (i := 170) zc_4 rfl rfl
theorem kw_965 : Cond.code yX11_won cX11_won 5 (some .int) ∈ zW := zwC (i := 171) zc_4 rfl rfl
theorem kw_966 : Cond.methodLink R_law 61 yX11_undone ∈ zW := zwC (i := 172) zc_4 rfl rfl
theorem kw_967 : Cond.instanceMethod yX11_undone ∈ zW := zwC (i := 173) zc_4 rfl rfl
theorem kw_968 : Cond.selects RX11 yX11_undone yX11_undone ∈ zW := zwC (i := 174) zc_4 rfl rfl
theorem kw_969 : Cond.code yX11_undone cX11_undone 4 (some .int) ∈ zW := zwC (i := 175) zc_4 rfl rfl
theorem kw_970 : Cond.methodLink R_law 65 yX11_law ∈ zW := zwC (i := 176) zc_4 rfl rfl
theorem kw_971 : Cond.instanceMethod yX11_law ∈ zW := zwC (i := 177) zc_4 rfl rfl
theorem kw_972 : Cond.selects RX11 yX11_law yX11_law ∈ zW := zwC (i := 178) zc_4 rfl rfl
theorem kw_973 : Cond.code yX11_law cX11_law 3 (some .int) ∈ zW := zwC (i := 179) zc_4 rfl rfl
theorem kw_974 : Cond.methodLink R_law 70 yX11_counts ∈ zW := zwC (i := 180) zc_4 rfl rfl
theorem kw_975 : Cond.instanceMethod yX11_counts ∈ zW := zwC (i := 181) zc_4 rfl rfl
theorem kw_976 : Cond.selects RX11 yX11_counts yX11_counts ∈ zW := zwC (i := 182) zc_4 rfl rfl
theorem kw_977 : Cond.code yX11_counts cX11_counts 5 (some .int) ∈ zW := zwC (i := 183) zc_4 rfl rfl
theorem kw_990 : Cond.methodLink R_law 74 yX11_met ∈ zW := zwC (i := 196) zc_4 rfl rfl
theorem kw_991 : Cond.instanceMethod yX11_met ∈ zW := zwC (i := 197) zc_4 rfl rfl
theorem kw_992 : Cond.selects RX11 yX11_met yX11_met ∈ zW := zwC (i := 198) zc_4 rfl rfl
theorem kw_993 : Cond.code yX11_met cX11_met 4 (some .int) ∈ zW := zwC (i := 199) zc_4 rfl rfl
theorem kw_1032 : Cond.methodLink R_law 78 yX11_point ∈ zW := zwC (i := 238) zc_4 rfl rfl
theorem kw_1033 : Cond.instanceMethod yX11_point ∈ zW := zwC (i := 239) zc_4 rfl rfl
theorem kw_1034 : Cond.selects RX11 yX11_point yX11_point ∈ zW := zwC (i := 0) zc_5 rfl rfl
theorem kw_1035 : Cond.code yX11_point cX11_point 6 (some .int) ∈ zW := zwC (i := 1) zc_5 rfl rfl
theorem kw_1049 : Cond.methodLink R_law 82 yX11_left ∈ zW := zwC (i := 15) zc_5 rfl rfl
theorem kw_1050 : Cond.instanceMethod yX11_left ∈ zW := zwC (i := 16) zc_5 rfl rfl
theorem kw_1051 : Cond.selects RX11 yX11_left yX11_left ∈ zW := zwC (i := 17) zc_5 rfl rfl
theorem kw_1052 : Cond.code yX11_left cX11_left 6 (some .int) ∈ zW := zwC (i := 18) zc_5 rfl rfl
theorem kw_1062 : Cond.methodLink R_law 86 yX11_lost ∈ zW := zwC (i := 28) zc_5 rfl rfl
theorem kw_1063 : Cond.instanceMethod yX11_lost ∈ zW := zwC (i := 29) zc_5 rfl rfl
theorem kw_1064 : Cond.selects RX11 yX11_lost yX11_lost ∈ zW := zwC (i := 30) zc_5 rfl rfl
theorem kw_1065 : Cond.code yX11_lost cX11_lost 7 (some .int) ∈ zW := zwC (i := 31) zc_5 rfl rfl
theorem kw_1068 : Cond.methodLink R_law 90 yX11_opens ∈ zW := zwC (i := 34) zc_5 rfl rfl
theorem kw_1069 : Cond.instanceMethod yX11_opens ∈ zW := zwC (i := 35) zc_5 rfl rfl
theorem kw_1070 : Cond.selects RX11 yX11_opens yX11_opens ∈ zW := zwC (i := 36) zc_5 rfl rfl
theorem kw_1071 : Cond.code yX11_opens cX11_opens 7 (some .long) ∈ zW := zwC (i := 37) zc_5 rfl rfl
theorem kw_1073 : Cond.methodLink R_law 95 yX11_clash ∈ zW := zwC (i := 39) zc_5 rfl rfl
theorem kw_1074 : Cond.instanceMethod yX11_clash ∈ zW := zwC (i := 40) zc_5 rfl rfl
theorem kw_1075 : Cond.selects RX11 yX11_clash yX11_clash ∈ zW := zwC (i := 41) zc_5 rfl rfl
theorem kw_1076 : Cond.code yX11_clash cX11_clash 8 (some .int) ∈ zW := zwC (i := 42) zc_5 rfl rfl
theorem kw_1087 : Cond.methodLink R_law 99 yX11_wish ∈ zW := zwC (i := 53) zc_5 rfl rfl
theorem kw_1088 : Cond.instanceMethod yX11_wish ∈ zW := zwC (i := 54) zc_5 rfl rfl
theorem kw_1089 : Cond.selects RX11 yX11_wish yX11_wish ∈ zW := zwC (i := 55) zc_5 rfl rfl
theorem kw_1090 : Cond.code yX11_wish cX11_wish 3 (some .int) ∈ zW := zwC (i := 56) zc_5 rfl rfl
theorem kw_1099 : Cond.methodLink R_law 103 yX11_order ∈ zW := zwC (i := 65) zc_5 rfl rfl
theorem kw_1100 : Cond.instanceMethod yX11_order ∈ zW := zwC (i := 66) zc_5 rfl rfl
theorem kw_1101 : Cond.selects RX11 yX11_order yX11_order ∈ zW := zwC (i := 67) zc_5 rfl rfl
theorem kw_1102 : Cond.code yX11_order cX11_order 3 (some .int) ∈ zW := zwC (i := 68) zc_5 rfl rfl
theorem kw_1131 : Cond.methodLink R_law 107 yX11_unwish ∈ zW := zwC (i := 97) zc_5 rfl rfl
theorem kw_1132 : Cond.instanceMethod yX11_unwish ∈ zW := zwC (i := 98) zc_5 rfl rfl
theorem kw_1133 : Cond.selects RX11 yX11_unwish yX11_unwish ∈ zW := zwC (i := 99) zc_5 rfl rfl
theorem kw_1134 : Cond.code yX11_unwish cX11_unwish 2 (some .int) ∈ zW := zwC (i := 100) zc_5 rfl rfl
theorem kw_1135 : Cond.methodLink R_law 111 yX11_joined ∈ zW := zwC (i := 101) zc_5 rfl rfl
theorem kw_1136 : Cond.instanceMethod yX11_joined ∈ zW := zwC (i := 102) zc_5 rfl rfl
theorem kw_1137 : Cond.selects RX11 yX11_joined yX11_joined ∈ zW := zwC (i := 103) zc_5 rfl rfl
theorem kw_1138 : Cond.code yX11_joined cX11_joined 6 (some .int) ∈ zW := zwC (i := 104) zc_5 rfl rfl
theorem kw_1153 : Cond.methodLink R_law 115 yX11_ring ∈ zW := zwC (i := 119) zc_5 rfl rfl
theorem kw_1154 : Cond.instanceMethod yX11_ring ∈ zW := zwC (i := 120) zc_5 rfl rfl
theorem kw_1155 : Cond.selects RX11 yX11_ring yX11_ring ∈ zW := zwC (i := 121) zc_5 rfl rfl
theorem kw_1156 : Cond.code yX11_ring cX11_ring 4 (some .int) ∈ zW := zwC (i := 122) zc_5 rfl rfl
theorem kw_1169 : Cond.methodLink R_law 119 yX11_hangs ∈ zW := zwC (i := 135) zc_5 rfl rfl
theorem kw_1170 : Cond.instanceMethod yX11_hangs ∈ zW := zwC (i := 136) zc_5 rfl rfl
theorem kw_1171 : Cond.selects RX11 yX11_hangs yX11_hangs ∈ zW := zwC (i := 137) zc_5 rfl rfl
theorem kw_1172 : Cond.code yX11_hangs cX11_hangs 4 (some .int) ∈ zW := zwC (i := 138) zc_5 rfl rfl
theorem kw_1182 : Cond.methodLink R_law 123 yX11_need ∈ zW := zwC (i := 148) zc_5 rfl rfl
theorem kw_1183 : Cond.instanceMethod yX11_need ∈ zW := zwC (i := 149) zc_5 rfl rfl
theorem kw_1184 : Cond.selects RX11 yX11_need yX11_need ∈ zW := zwC (i := 150) zc_5 rfl rfl
theorem kw_1185 : Cond.code yX11_need cX11_need 6 (some .int) ∈ zW := zwC (i := 151) zc_5 rfl rfl
theorem kw_1186 : Cond.methodLink R_law 127 yX11_undo ∈ zW := zwC (i := 152) zc_5 rfl rfl
theorem kw_1187 : Cond.instanceMethod yX11_undo ∈ zW := zwC (i := 153) zc_5 rfl rfl
theorem kw_1188 : Cond.selects RX11 yX11_undo yX11_undo ∈ zW := zwC (i := 154) zc_5 rfl rfl
theorem kw_1189 : Cond.code yX11_undo cX11_undo 1 (some .int) ∈ zW := zwC (i := 155) zc_5 rfl rfl
theorem kw_1194 : Cond.methodLink R_law 131 yX11_redo ∈ zW := zwC (i := 160) zc_5 rfl rfl
theorem kw_1195 : Cond.instanceMethod yX11_redo ∈ zW := zwC (i := 161) zc_5 rfl rfl
theorem kw_1196 : Cond.selects RX11 yX11_redo yX11_redo ∈ zW := zwC (i := 162) zc_5 rfl rfl
theorem kw_1197 : Cond.code yX11_redo cX11_redo 1 (some .int) ∈ zW := zwC (i := 163) zc_5 rfl rfl
theorem kw_1202 : Cond.methodLink R_law 135 yX11_act ∈ zW := zwC (i := 168) zc_5 rfl rfl
theorem kw_1203 : Cond.instanceMethod yX11_act ∈ zW := zwC (i := 169) zc_5 rfl rfl
theorem kw_1204 : Cond.selects RX11 yX11_act yX11_act ∈ zW := zwC (i := 170) zc_5 rfl rfl
theorem kw_1205 : Cond.code yX11_act cX11_act 5 (some .int) ∈ zW := zwC (i := 171) zc_5 rfl rfl
theorem kw_1238 : Cond.methodLink R_law 139 yX11_trace ∈ zW := zwC (i := 204) zc_5 rfl rfl
theorem kw_1239 : Cond.instanceMethod yX11_trace ∈ zW := zwC (i := 205) zc_5 rfl rfl
theorem kw_1240 : Cond.selects RX11 yX11_trace yX11_trace ∈ zW := zwC (i := 206) zc_5 rfl rfl
theorem kw_1241 : Cond.code yX11_trace cX11_trace 2 (some .int) ∈ zW := zwC (i := 207) zc_5 rfl rfl
theorem kw_1242 : Cond.methodLink R_law 143 yX11_keep ∈ zW := zwC (i := 208) zc_5 rfl rfl
theorem kw_1243 : Cond.instanceMethod yX11_keep ∈ zW := zwC (i := 209) zc_5 rfl rfl
theorem kw_1244 : Cond.selects RX11 yX11_keep yX11_keep ∈ zW := zwC (i := 210) zc_5 rfl rfl
theorem kw_1245 : Cond.code yX11_keep cX11_keep 4 (some .int) ∈ zW := zwC (i := 211) zc_5 rfl rfl
theorem kw_1246 : Cond.methodLink R_law 147 yX11_row ∈ zW := zwC (i := 212) zc_5 rfl rfl
theorem kw_1247 : Cond.instanceMethod yX11_row ∈ zW := zwC (i := 213) zc_5 rfl rfl
theorem kw_1248 : Cond.selects RX11 yX11_row yX11_row ∈ zW := zwC (i := 214) zc_5 rfl rfl
theorem kw_1249 : Cond.code yX11_row cX11_row 5 (some .int) ∈ zW := zwC (i := 215) zc_5 rfl rfl
theorem kw_1255 : Cond.methodLink R_law 153 yX11_put ∈ zW := zwC (i := 221) zc_5 rfl rfl
theorem kw_1256 : Cond.instanceMethod yX11_put ∈ zW := zwC (i := 222) zc_5 rfl rfl
theorem kw_1257 : Cond.selects RX11 yX11_put yX11_put ∈ zW := zwC (i := 223) zc_5 rfl rfl
theorem kw_1258 : Cond.code yX11_put cX11_put 7 (some .int) ∈ zW := zwC (i := 224) zc_5 rfl rfl
theorem kw_1268 : Cond.methodLink R_law 158 yX11_element ∈ zW := zwC (i := 234) zc_5 rfl rfl
theorem kw_1269 : Cond.instanceMethod yX11_element ∈ zW := zwC (i := 235) zc_5 rfl rfl
theorem kw_1270 : Cond.selects RX11 yX11_element yX11_element ∈ zW := zwC (i := 236) zc_5 rfl rfl
theorem kw_1271 : Cond.code yX11_element cX11_element 4 (some .long) ∈ zW := zwC (i := 237) zc_5 rfl rfl
theorem kw_1273 : Cond.methodLink R_law 162 yX11_shift ∈ zW := zwC (i := 239) zc_5 rfl rfl
theorem kw_1274 : Cond.instanceMethod yX11_shift ∈ zW := zwC (i := 0) zc_6 rfl rfl
theorem kw_1275 : Cond.selects RX11 yX11_shift yX11_shift ∈ zW := zwC (i := 1) zc_6 rfl rfl
theorem kw_1276 : Cond.code yX11_shift cX11_shift 8 (some .int) ∈ zW := zwC (i := 2) zc_6 rfl rfl
theorem kw_1278 : Cond.methodLink R_law 167 yX11_taken ∈ zW := zwC (i := 4) zc_6 rfl rfl
theorem kw_1279 : Cond.instanceMethod yX11_taken ∈ zW := zwC (i := 5) zc_6 rfl rfl
theorem kw_1280 : Cond.selects RX11 yX11_taken yX11_taken ∈ zW := zwC (i := 6) zc_6 rfl rfl
theorem kw_1281 : Cond.code yX11_taken cX11_taken 5 (some .int) ∈ zW := zwC (i := 7) zc_6 rfl rfl
theorem kw_1286 : Cond.methodLink R_law 171 yX11_count ∈ zW := zwC (i := 12) zc_6 rfl rfl
theorem kw_1287 : Cond.instanceMethod yX11_count ∈ zW := zwC (i := 13) zc_6 rfl rfl
theorem kw_1288 : Cond.selects RX11 yX11_count yX11_count ∈ zW := zwC (i := 14) zc_6 rfl rfl
theorem kw_1289 : Cond.code yX11_count cX11_count 2 (some .int) ∈ zW := zwC (i := 15) zc_6 rfl rfl
theorem kw_1478 : Cond.methodLink R_law 17 yX12_shoe ∈ zW := zwC (i := 204) zc_6 rfl rfl
theorem kw_1491 : Cond.methodLink R_law 22 yX12_shoes ∈ zW := zwC (i := 217) zc_6 rfl rfl
theorem kw_1492 : Cond.instanceMethod yX12_shoes ∈ zW := zwC (i := 218) zc_6 rfl rfl
theorem kw_1493 : Cond.selects RX12 yX12_shoes yX12_shoes ∈ zW := zwC (i := 219) zc_6 rfl rfl
theorem kw_1494 : Cond.code yX12_shoes cX12_shoes 8 (some .int) ∈ zW := zwC (i := 220) zc_6 rfl rfl
theorem kw_1500 : Cond.methodLink R_law 27 yX12_ofShoe ∈ zW := zwC (i := 226) zc_6 rfl rfl
theorem kw_1501 : Cond.instanceMethod yX12_ofShoe ∈ zW := zwC (i := 227) zc_6 rfl rfl
theorem kw_1502 : Cond.selects RX12 yX12_ofShoe yX12_ofShoe ∈ zW := zwC (i := 228) zc_6 rfl rfl
theorem kw_1503 : Cond.code yX12_ofShoe cX12_ofShoe 3 (some .int) ∈ zW := zwC (i := 229) zc_6 rfl rfl
theorem kw_1508 : Cond.methodLink R_law 39 yX12_claim ∈ zW := zwC (i := 234) zc_6 rfl rfl
theorem kw_1509 : Cond.instanceMethod yX12_claim ∈ zW := zwC (i := 235) zc_6 rfl rfl
theorem kw_1510 : Cond.selects RX12 yX12_claim yX12_claim ∈ zW := zwC (i := 236) zc_6 rfl rfl
theorem kw_1511 : Cond.code yX12_claim cX12_claim 4 (some .int) ∈ zW := zwC (i := 237) zc_6 rfl rfl
theorem kw_1515 : Cond.methodLink R_law 43 yX12_ofClaim ∈ zW := zwC (i := 1) zc_7 rfl rfl
theorem kw_1516 : Cond.instanceMethod yX12_ofClaim ∈ zW := zwC (i := 2) zc_7 rfl rfl
theorem kw_1517 : Cond.selects RX12 yX12_ofClaim yX12_ofClaim ∈ zW := zwC (i := 3) zc_7 rfl rfl
theorem kw_1518 : Cond.code yX12_ofClaim cX12_ofClaim 3 (some .int) ∈ zW := zwC (i := 4) zc_7 rfl rfl
theorem kw_1523 : Cond.methodLink R_law 47 yX12_feed ∈ zW := zwC (i := 9) zc_7 rfl rfl
theorem kw_1524 : Cond.instanceMethod yX12_feed ∈ zW := zwC (i := 10) zc_7 rfl rfl
theorem kw_1525 : Cond.selects RX12 yX12_feed yX12_feed ∈ zW := zwC (i := 11) zc_7 rfl rfl
theorem kw_1526 : Cond.code yX12_feed cX12_feed 4 (some .int) ∈ zW := zwC (i := 12) zc_7 rfl rfl
theorem kw_1527 : Cond.methodLink R_law 52 yX12_suit ∈ zW := zwC (i := 13) zc_7 rfl rfl
theorem kw_1528 : Cond.instanceMethod yX12_suit ∈ zW := zwC (i := 14) zc_7 rfl rfl
theorem kw_1529 : Cond.selects RX12 yX12_suit yX12_suit ∈ zW := zwC (i := 15) zc_7 rfl rfl
theorem kw_1530 : Cond.code yX12_suit cX12_suit 2 (some .int) ∈ zW := zwC (i := 16) zc_7 rfl rfl
theorem kw_1575 : Cond.methodLink R_law 56 yX12_ofSuit ∈ zW := zwC (i := 61) zc_7 rfl rfl
theorem kw_1576 : Cond.instanceMethod yX12_ofSuit ∈ zW := zwC (i := 62) zc_7 rfl rfl
theorem kw_1577 : Cond.selects RX12 yX12_ofSuit yX12_ofSuit ∈ zW := zwC (i := 63) zc_7 rfl rfl
theorem kw_1578 : Cond.code yX12_ofSuit cX12_ofSuit 5 (some .int) ∈ zW := zwC (i := 64) zc_7 rfl rfl
theorem kw_1587 : Cond.methodLink R_law 130 yX12_undo ∈ zW := zwC (i := 73) zc_7 rfl rfl
theorem kw_1588 : Cond.instanceMethod yX12_undo ∈ zW := zwC (i := 74) zc_7 rfl rfl
theorem kw_1589 : Cond.selects RX12 yX12_undo yX12_undo ∈ zW := zwC (i := 75) zc_7 rfl rfl
theorem kw_1590 : Cond.code yX12_undo cX12_undo 1 (some .int) ∈ zW := zwC (i := 76) zc_7 rfl rfl
theorem kw_1595 : Cond.methodLink R_law 134 yX12_redo ∈ zW := zwC (i := 81) zc_7 rfl rfl
theorem kw_1596 : Cond.instanceMethod yX12_redo ∈ zW := zwC (i := 82) zc_7 rfl rfl
theorem kw_1597 : Cond.selects RX12 yX12_redo yX12_redo ∈ zW := zwC (i := 83) zc_7 rfl rfl
theorem kw_1598 : Cond.code yX12_redo cX12_redo 1 (some .int) ∈ zW := zwC (i := 84) zc_7 rfl rfl
theorem kw_1599 : Cond.methodLink R_law 31 yX12_moveShoe ∈ zW := zwC (i := 85) zc_7 rfl rfl
theorem kw_1600 : Cond.instanceMethod yX12_moveShoe ∈ zW := zwC (i := 86) zc_7 rfl rfl
theorem kw_1601 : Cond.selects RX12 yX12_moveShoe yX12_moveShoe ∈ zW := zwC (i := 87) zc_7 rfl rfl
theorem kw_1602 : Cond.code yX12_moveShoe cX12_moveShoe 3 (some .int) ∈ zW := zwC (i := 88) zc_7 rfl rfl
theorem kw_1607 : Cond.methodLink R_law 60 yX12_won ∈ zW := zwC (i := 93) zc_7 rfl rfl
theorem kw_1608 : Cond.instanceMethod yX12_won ∈ zW := zwC (i := 94) zc_7 rfl rfl
theorem kw_1609 : Cond.selects RX12 yX12_won yX12_won ∈ zW := zwC (i := 95) zc_7 rfl rfl
theorem kw_1610 : Cond.code yX12_won cX12_won 3 (some .int) ∈ zW := zwC (i := 96) zc_7 rfl rfl
theorem kw_1611 : Cond.methodLink R_law 64 yX12_undone ∈ zW := zwC (i := 97) zc_7 rfl rfl
theorem kw_1612 : Cond.instanceMethod yX12_undone ∈ zW := zwC (i := 98) zc_7 rfl rfl
theorem kw_1613 : Cond.selects RX12 yX12_undone yX12_undone ∈ zW := zwC (i := 99) zc_7 rfl rfl
theorem kw_1614 : Cond.code yX12_undone cX12_undone 3 (some .int) ∈ zW := zwC (i := 100) zc_7 rfl rfl
theorem kw_1615 : Cond.methodLink R_law 69 yX12_law ∈ zW := zwC (i := 101) zc_7 rfl rfl
theorem kw_1616 : Cond.instanceMethod yX12_law ∈ zW := zwC (i := 102) zc_7 rfl rfl
theorem kw_1617 : Cond.selects RX12 yX12_law yX12_law ∈ zW := zwC (i := 103) zc_7 rfl rfl
theorem kw_1618 : Cond.code yX12_law cX12_law 4 (some .int) ∈ zW := zwC (i := 104) zc_7 rfl rfl
theorem kw_1665 : Cond.methodLink R_law 35 yX12_bound ∈ zW := zwC (i := 151) zc_7 rfl rfl
theorem kw_1666 : Cond.instanceMethod yX12_bound ∈ zW := zwC (i := 152) zc_7 rfl rfl
theorem kw_1667 : Cond.selects RX12 yX12_bound yX12_bound ∈ zW := zwC (i := 153) zc_7 rfl rfl
theorem kw_1668 : Cond.code yX12_bound cX12_bound 7 (some .int) ∈ zW := zwC (i := 154) zc_7 rfl rfl
theorem kw_1696 : Cond.methodLink R_law 73 yX12_counts ∈ zW := zwC (i := 182) zc_7 rfl rfl
theorem kw_1697 : Cond.instanceMethod yX12_counts ∈ zW := zwC (i := 183) zc_7 rfl rfl
theorem kw_1698 : Cond.selects RX12 yX12_counts yX12_counts ∈ zW := zwC (i := 184) zc_7 rfl rfl
theorem kw_1699 : Cond.code yX12_counts cX12_counts 4 (some .int) ∈ zW := zwC (i := 185) zc_7 rfl rfl
theorem kw_1712 : Cond.methodLink R_law 77 yX12_met ∈ zW := zwC (i := 198) zc_7 rfl rfl
theorem kw_1713 : Cond.instanceMethod yX12_met ∈ zW := zwC (i := 199) zc_7 rfl rfl
theorem kw_1714 : Cond.selects RX12 yX12_met yX12_met ∈ zW := zwC (i := 200) zc_7 rfl rfl
theorem kw_1715 : Cond.code yX12_met cX12_met 4 (some .int) ∈ zW := zwC (i := 201) zc_7 rfl rfl
theorem kw_1743 : Cond.methodLink R_law 81 yX12_point ∈ zW := zwC (i := 229) zc_7 rfl rfl
theorem kw_1744 : Cond.instanceMethod yX12_point ∈ zW := zwC (i := 230) zc_7 rfl rfl
theorem kw_1745 : Cond.selects RX12 yX12_point yX12_point ∈ zW := zwC (i := 231) zc_7 rfl rfl
theorem kw_1746 : Cond.code yX12_point cX12_point 6 (some .int) ∈ zW := zwC (i := 232) zc_7 rfl rfl
theorem kw_1754 : Cond.methodLink R_law 85 yX12_left ∈ zW := zwC (i := 0) zc_8 rfl rfl
theorem kw_1755 : Cond.instanceMethod yX12_left ∈ zW := zwC (i := 1) zc_8 rfl rfl
theorem kw_1756 : Cond.selects RX12 yX12_left yX12_left ∈ zW := zwC (i := 2) zc_8 rfl rfl
theorem kw_1757 : Cond.code yX12_left cX12_left 5 (some .int) ∈ zW := zwC (i := 3) zc_8 rfl rfl
theorem kw_1758 : Cond.methodLink R_law 89 yX12_lost ∈ zW := zwC (i := 4) zc_8 rfl rfl
theorem kw_1759 : Cond.instanceMethod yX12_lost ∈ zW := zwC (i := 5) zc_8 rfl rfl
theorem kw_1760 : Cond.selects RX12 yX12_lost yX12_lost ∈ zW := zwC (i := 6) zc_8 rfl rfl
theorem kw_1761 : Cond.code yX12_lost cX12_lost 5 (some .int) ∈ zW := zwC (i := 7) zc_8 rfl rfl
theorem kw_1762 : Cond.methodLink R_law 94 yX12_opens ∈ zW := zwC (i := 8) zc_8 rfl rfl
theorem kw_1763 : Cond.instanceMethod yX12_opens ∈ zW := zwC (i := 9) zc_8 rfl rfl
theorem kw_1764 : Cond.selects RX12 yX12_opens yX12_opens ∈ zW := zwC (i := 10) zc_8 rfl rfl
theorem kw_1765 : Cond.code yX12_opens cX12_opens 6 (some .long) ∈ zW := zwC (i := 11) zc_8 rfl rfl
theorem kw_1767 : Cond.methodLink R_law 98 yX12_clash ∈ zW := zwC (i := 13) zc_8 rfl rfl
theorem kw_1768 : Cond.instanceMethod yX12_clash ∈ zW := zwC (i := 14) zc_8 rfl rfl
theorem kw_1769 : Cond.selects RX12 yX12_clash yX12_clash ∈ zW := zwC (i := 15) zc_8 rfl rfl
theorem kw_1770 : Cond.code yX12_clash cX12_clash 8 (some .int) ∈ zW := zwC (i := 16) zc_8 rfl rfl
theorem kw_1771 : Cond.methodLink R_law 102 yX12_wish ∈ zW := zwC (i := 17) zc_8 rfl rfl
theorem kw_1772 : Cond.instanceMethod yX12_wish ∈ zW := zwC (i := 18) zc_8 rfl rfl
theorem kw_1773 : Cond.selects RX12 yX12_wish yX12_wish ∈ zW := zwC (i := 19) zc_8 rfl rfl
theorem kw_1774 : Cond.code yX12_wish cX12_wish 4 (some .int) ∈ zW := zwC (i := 20) zc_8 rfl rfl
theorem kw_1775 : Cond.methodLink R_law 110 yX12_unwish ∈ zW := zwC (i := 21) zc_8 rfl rfl
theorem kw_1776 : Cond.instanceMethod yX12_unwish ∈ zW := zwC (i := 22) zc_8 rfl rfl
theorem kw_1777 : Cond.selects RX12 yX12_unwish yX12_unwish ∈ zW := zwC (i := 23) zc_8 rfl rfl
theorem kw_1778 : Cond.code yX12_unwish cX12_unwish 2 (some .int) ∈ zW := zwC (i := 24) zc_8 rfl rfl
theorem kw_1779 : Cond.methodLink R_law 106 yX12_order ∈ zW := zwC (i := 25) zc_8 rfl rfl
theorem kw_1780 : Cond.instanceMethod yX12_order ∈ zW := zwC (i := 26) zc_8 rfl rfl
theorem kw_1781 : Cond.selects RX12 yX12_order yX12_order ∈ zW := zwC (i := 27) zc_8 rfl rfl
theorem kw_1782 : Cond.code yX12_order cX12_order 3 (some .int) ∈ zW := zwC (i := 28) zc_8 rfl rfl
theorem kw_1791 : Cond.methodLink R_law 114 yX12_joined ∈ zW := zwC (i := 37) zc_8 rfl rfl
theorem kw_1792 : Cond.instanceMethod yX12_joined ∈ zW := zwC (i := 38) zc_8 rfl rfl
theorem kw_1793 : Cond.selects RX12 yX12_joined yX12_joined ∈ zW := zwC (i := 39) zc_8 rfl rfl
theorem kw_1794 : Cond.code yX12_joined cX12_joined 9 (some .int) ∈ zW := zwC (i := 40) zc_8 rfl rfl
theorem kw_1798 : Cond.methodLink R_law 118 yX12_ring ∈ zW := zwC (i := 44) zc_8 rfl rfl
theorem kw_1799 : Cond.instanceMethod yX12_ring ∈ zW := zwC (i := 45) zc_8 rfl rfl
theorem kw_1800 : Cond.selects RX12 yX12_ring yX12_ring ∈ zW := zwC (i := 46) zc_8 rfl rfl
theorem kw_1801 : Cond.code yX12_ring cX12_ring 4 (some .int) ∈ zW := zwC (i := 47) zc_8 rfl rfl
theorem kw_1810 : Cond.methodLink R_law 122 yX12_hangs ∈ zW := zwC (i := 56) zc_8 rfl rfl
theorem kw_1811 : Cond.instanceMethod yX12_hangs ∈ zW := zwC (i := 57) zc_8 rfl rfl
theorem kw_1812 : Cond.selects RX12 yX12_hangs yX12_hangs ∈ zW := zwC (i := 58) zc_8 rfl rfl
theorem kw_1813 : Cond.code yX12_hangs cX12_hangs 7 (some .int) ∈ zW := zwC (i := 59) zc_8 rfl rfl
theorem kw_1814 : Cond.methodLink R_law 126 yX12_need ∈ zW := zwC (i := 60) zc_8 rfl rfl
theorem kw_1815 : Cond.instanceMethod yX12_need ∈ zW := zwC (i := 61) zc_8 rfl rfl
theorem kw_1816 : Cond.selects RX12 yX12_need yX12_need ∈ zW := zwC (i := 62) zc_8 rfl rfl
theorem kw_1817 : Cond.code yX12_need cX12_need 6 (some .int) ∈ zW := zwC (i := 63) zc_8 rfl rfl
theorem kw_1818 : Cond.methodLink R_law 138 yX12_act ∈ zW := zwC (i := 64) zc_8 rfl rfl
theorem kw_1819 : Cond.instanceMethod yX12_act ∈ zW := zwC (i := 65) zc_8 rfl rfl
theorem kw_1820 : Cond.selects RX12 yX12_act yX12_act ∈ zW := zwC (i := 66) zc_8 rfl rfl
theorem kw_1821 : Cond.code yX12_act cX12_act 4 (some .int) ∈ zW := zwC (i := 67) zc_8 rfl rfl
theorem kw_1865 : Cond.methodLink R_law 142 yX12_trace ∈ zW := zwC (i := 111) zc_8 rfl rfl
theorem kw_1866 : Cond.instanceMethod yX12_trace ∈ zW := zwC (i := 112) zc_8 rfl rfl
theorem kw_1867 : Cond.selects RX12 yX12_trace yX12_trace ∈ zW := zwC (i := 113) zc_8 rfl rfl
theorem kw_1868 : Cond.code yX12_trace cX12_trace 2 (some .int) ∈ zW := zwC (i := 114) zc_8 rfl rfl
theorem kw_1869 : Cond.methodLink R_law 174 yX12_count ∈ zW := zwC (i := 115) zc_8 rfl rfl
theorem kw_1870 : Cond.instanceMethod yX12_count ∈ zW := zwC (i := 116) zc_8 rfl rfl
theorem kw_1871 : Cond.selects RX12 yX12_count yX12_count ∈ zW := zwC (i := 117) zc_8 rfl rfl
theorem kw_1872 : Cond.code yX12_count cX12_count 2 (some .int) ∈ zW := zwC (i := 118) zc_8 rfl rfl
theorem kw_1873 : Cond.methodLink R_law 146 yX12_keep ∈ zW := zwC (i := 119) zc_8 rfl rfl
theorem kw_1874 : Cond.instanceMethod yX12_keep ∈ zW := zwC (i := 120) zc_8 rfl rfl
theorem kw_1875 : Cond.selects RX12 yX12_keep yX12_keep ∈ zW := zwC (i := 121) zc_8 rfl rfl
theorem kw_1876 : Cond.code yX12_keep cX12_keep 3 (some .int) ∈ zW := zwC (i := 122) zc_8 rfl rfl
theorem kw_1877 : Cond.methodLink R_law 150 yX12_row ∈ zW := zwC (i := 123) zc_8 rfl rfl
theorem kw_1878 : Cond.instanceMethod yX12_row ∈ zW := zwC (i := 124) zc_8 rfl rfl
theorem kw_1879 : Cond.selects RX12 yX12_row yX12_row ∈ zW := zwC (i := 125) zc_8 rfl rfl
theorem kw_1880 : Cond.code yX12_row cX12_row 5 (some .int) ∈ zW := zwC (i := 126) zc_8 rfl rfl
theorem kw_1881 : Cond.methodLink R_law 157 yX12_put ∈ zW := zwC (i := 127) zc_8 rfl rfl
theorem kw_1882 : Cond.instanceMethod yX12_put ∈ zW := zwC (i := 128) zc_8 rfl rfl
theorem kw_1883 : Cond.selects RX12 yX12_put yX12_put ∈ zW := zwC (i := 129) zc_8 rfl rfl
theorem kw_1884 : Cond.code yX12_put cX12_put 7 (some .int) ∈ zW := zwC (i := 130) zc_8 rfl rfl
theorem kw_1889 : Cond.methodLink R_law 161 yX12_element ∈ zW := zwC (i := 135) zc_8 rfl rfl
theorem kw_1890 : Cond.instanceMethod yX12_element ∈ zW := zwC (i := 136) zc_8 rfl rfl
theorem kw_1891 : Cond.selects RX12 yX12_element yX12_element ∈ zW := zwC (i := 137) zc_8 rfl rfl
theorem kw_1892 : Cond.code yX12_element cX12_element 3 (some .long) ∈ zW := zwC (i := 138) zc_8 rfl rfl
theorem kw_1894 : Cond.methodLink R_law 166 yX12_shift ∈ zW := zwC (i := 140) zc_8 rfl rfl
theorem kw_1895 : Cond.instanceMethod yX12_shift ∈ zW := zwC (i := 141) zc_8 rfl rfl
theorem kw_1896 : Cond.selects RX12 yX12_shift yX12_shift ∈ zW := zwC (i := 142) zc_8 rfl rfl
theorem kw_1897 : Cond.code yX12_shift cX12_shift 7 (some .int) ∈ zW := zwC (i := 143) zc_8 rfl rfl
theorem kw_1898 : Cond.methodLink R_law 170 yX12_taken ∈ zW := zwC (i := 144) zc_8 rfl rfl
theorem kw_1899 : Cond.instanceMethod yX12_taken ∈ zW := zwC (i := 145) zc_8 rfl rfl
theorem kw_1900 : Cond.selects RX12 yX12_taken yX12_taken ∈ zW := zwC (i := 146) zc_8 rfl rfl
theorem kw_1901 : Cond.code yX12_taken cX12_taken 3 (some .int) ∈ zW := zwC (i := 147) zc_8 rfl rfl

theorem gl_13 : GoodIn zW (wsV R_law 13 RX11 yX11_shoe z_X11_shoe) := zGV kw_730 kw_731 kw_732 kw_75 kw_733
theorem gl_17 : GoodIn zW (wsV R_law 17 RX12 yX12_shoe z_X12_shoe) := zGV kw_1478 kw_1479 kw_1480 kw_95 kw_1481
theorem gl_18 : GoodIn zW (wsV R_law 18 RX11 yX11_shoes z_X11_shoes) := zGV kw_744 kw_745 kw_746 kw_75 kw_747
theorem gl_22 : GoodIn zW (wsV R_law 22 RX12 yX12_shoes z_X12_shoes) := zGV kw_1491 kw_1492 kw_1493 kw_95 kw_1494
theorem gl_23 : GoodIn zW (wsV R_law 23 RX11 yX11_ofShoe z_X11_ofShoe) := zGV kw_761 kw_762 kw_763 kw_75 kw_764
theorem gl_27 : GoodIn zW (wsV R_law 27 RX12 yX12_ofShoe z_X12_ofShoe) := zGV kw_1500 kw_1501 kw_1502 kw_95 kw_1503
theorem gl_28 : GoodIn zW (wsV R_law 28 RX11 yX11_moveShoe z_X11_moveShoe) := zGV kw_769 kw_770 kw_771 kw_75 kw_772
theorem gl_31 : GoodIn zW (wsV R_law 31 RX12 yX12_moveShoe z_X12_moveShoe) := zGV kw_1599 kw_1600 kw_1601 kw_95 kw_1602
theorem gl_32 : GoodIn zW (wsV R_law 32 RX11 yX11_bound z_X11_bound) := zGV kw_790 kw_791 kw_792 kw_75 kw_793
theorem gl_35 : GoodIn zW (wsV R_law 35 RX12 yX12_bound z_X12_bound) := zGV kw_1665 kw_1666 kw_1667 kw_95 kw_1668
theorem gl_36 : GoodIn zW (wsV R_law 36 RX11 yX11_claim z_X11_claim) := zGV kw_842 kw_843 kw_844 kw_75 kw_845
theorem gl_39 : GoodIn zW (wsV R_law 39 RX12 yX12_claim z_X12_claim) := zGV kw_1508 kw_1509 kw_1510 kw_95 kw_1511
theorem gl_40 : GoodIn zW (wsV R_law 40 RX11 yX11_ofClaim z_X11_ofClaim) := zGV kw_850 kw_851 kw_852 kw_75 kw_853
theorem gl_43 : GoodIn zW (wsV R_law 43 RX12 yX12_ofClaim z_X12_ofClaim) := zGV kw_1515 kw_1516 kw_1517 kw_95 kw_1518
theorem gl_44 : GoodIn zW (wsV R_law 44 RX11 yX11_feed z_X11_feed) := zGV kw_858 kw_859 kw_860 kw_75 kw_861
theorem gl_47 : GoodIn zW (wsV R_law 47 RX12 yX12_feed z_X12_feed) := zGV kw_1523 kw_1524 kw_1525 kw_95 kw_1526
theorem gl_48 : GoodIn zW (wsV R_law 48 RX11 yX11_suit z_X11_suit) := zGV kw_863 kw_864 kw_865 kw_75 kw_866
theorem gl_52 : GoodIn zW (wsV R_law 52 RX12 yX12_suit z_X12_suit) := zGV kw_1527 kw_1528 kw_1529 kw_95 kw_1530
theorem gl_53 : GoodIn zW (wsV R_law 53 RX11 yX11_ofSuit z_X11_ofSuit) := zGV kw_935 kw_936 kw_937 kw_75 kw_938
theorem gl_56 : GoodIn zW (wsV R_law 56 RX12 yX12_ofSuit z_X12_ofSuit) := zGV kw_1575 kw_1576 kw_1577 kw_95 kw_1578
theorem gl_57 : GoodIn zW (wsV R_law 57 RX11 yX11_won z_X11_won) := zGV kw_962 kw_963 kw_964 kw_75 kw_965
theorem gl_60 : GoodIn zW (wsV R_law 60 RX12 yX12_won z_X12_won) := zGV kw_1607 kw_1608 kw_1609 kw_95 kw_1610
theorem gl_61 : GoodIn zW (wsV R_law 61 RX11 yX11_undone z_X11_undone) := zGV kw_966 kw_967 kw_968 kw_75 kw_969
theorem gl_64 : GoodIn zW (wsV R_law 64 RX12 yX12_undone z_X12_undone) := zGV kw_1611 kw_1612 kw_1613 kw_95 kw_1614
theorem gl_65 : GoodIn zW (wsV R_law 65 RX11 yX11_law z_X11_law) := zGV kw_970 kw_971 kw_972 kw_75 kw_973
theorem gl_69 : GoodIn zW (wsV R_law 69 RX12 yX12_law z_X12_law) := zGV kw_1615 kw_1616 kw_1617 kw_95 kw_1618
theorem gl_70 : GoodIn zW (wsV R_law 70 RX11 yX11_counts z_X11_counts) := zGV kw_974 kw_975 kw_976 kw_75 kw_977
theorem gl_73 : GoodIn zW (wsV R_law 73 RX12 yX12_counts z_X12_counts) := zGV kw_1696 kw_1697 kw_1698 kw_95 kw_1699
theorem gl_74 : GoodIn zW (wsV R_law 74 RX11 yX11_met z_X11_met) := zGV kw_990 kw_991 kw_992 kw_75 kw_993
theorem gl_77 : GoodIn zW (wsV R_law 77 RX12 yX12_met z_X12_met) := zGV kw_1712 kw_1713 kw_1714 kw_95 kw_1715
theorem gl_78 : GoodIn zW (wsV R_law 78 RX11 yX11_point z_X11_point) := zGV kw_1032 kw_1033 kw_1034 kw_75 kw_1035
theorem gl_81 : GoodIn zW (wsV R_law 81 RX12 yX12_point z_X12_point) := zGV kw_1743 kw_1744 kw_1745 kw_95 kw_1746
theorem gl_82 : GoodIn zW (wsV R_law 82 RX11 yX11_left z_X11_left) := zGV kw_1049 kw_1050 kw_1051 kw_75 kw_1052
theorem gl_85 : GoodIn zW (wsV R_law 85 RX12 yX12_left z_X12_left) := zGV kw_1754 kw_1755 kw_1756 kw_95 kw_1757
theorem gl_86 : GoodIn zW (wsV R_law 86 RX11 yX11_lost z_X11_lost) := zGV kw_1062 kw_1063 kw_1064 kw_75 kw_1065
theorem gl_89 : GoodIn zW (wsV R_law 89 RX12 yX12_lost z_X12_lost) := zGV kw_1758 kw_1759 kw_1760 kw_95 kw_1761
theorem gl_90 : GoodIn zW (wsV R_law 90 RX11 yX11_opens z_X11_opens) := zGV kw_1068 kw_1069 kw_1070 kw_75 kw_1071
theorem gl_94 : GoodIn zW (wsV R_law 94 RX12 yX12_opens z_X12_opens) := zGV kw_1762 kw_1763 kw_1764 kw_95 kw_1765
theorem gl_95 : GoodIn zW (wsV R_law 95 RX11 yX11_clash z_X11_clash) := zGV kw_1073 kw_1074 kw_1075 kw_75 kw_1076
theorem gl_98 : GoodIn zW (wsV R_law 98 RX12 yX12_clash z_X12_clash) := zGV kw_1767 kw_1768 kw_1769 kw_95 kw_1770
theorem gl_99 : GoodIn zW (wsV R_law 99 RX11 yX11_wish z_X11_wish) := zGV kw_1087 kw_1088 kw_1089 kw_75 kw_1090
theorem gl_102 : GoodIn zW (wsV R_law 102 RX12 yX12_wish z_X12_wish) := zGV kw_1771 kw_1772 kw_1773 kw_95 kw_1774
theorem gl_103 : GoodIn zW (wsV R_law 103 RX11 yX11_order z_X11_order) := zGV kw_1099 kw_1100 kw_1101 kw_75 kw_1102
theorem gl_106 : GoodIn zW (wsV R_law 106 RX12 yX12_order z_X12_order) := zGV kw_1779 kw_1780 kw_1781 kw_95 kw_1782
theorem gl_107 : GoodIn zW (wsV R_law 107 RX11 yX11_unwish z_X11_unwish) := zGV kw_1131 kw_1132 kw_1133 kw_75 kw_1134
theorem gl_110 : GoodIn zW (wsV R_law 110 RX12 yX12_unwish z_X12_unwish) := zGV kw_1775 kw_1776 kw_1777 kw_95 kw_1778
theorem gl_111 : GoodIn zW (wsV R_law 111 RX11 yX11_joined z_X11_joined) := zGV kw_1135 kw_1136 kw_1137 kw_75 kw_1138
theorem gl_114 : GoodIn zW (wsV R_law 114 RX12 yX12_joined z_X12_joined) := zGV kw_1791 kw_1792 kw_1793 kw_95 kw_1794
theorem gl_115 : GoodIn zW (wsV R_law 115 RX11 yX11_ring z_X11_ring) := zGV kw_1153 kw_1154 kw_1155 kw_75 kw_1156
theorem gl_118 : GoodIn zW (wsV R_law 118 RX12 yX12_ring z_X12_ring) := zGV kw_1798 kw_1799 kw_1800 kw_95 kw_1801
theorem gl_119 : GoodIn zW (wsV R_law 119 RX11 yX11_hangs z_X11_hangs) := zGV kw_1169 kw_1170 kw_1171 kw_75 kw_1172
theorem gl_122 : GoodIn zW (wsV R_law 122 RX12 yX12_hangs z_X12_hangs) := zGV kw_1810 kw_1811 kw_1812 kw_95 kw_1813
theorem gl_123 : GoodIn zW (wsV R_law 123 RX11 yX11_need z_X11_need) := zGV kw_1182 kw_1183 kw_1184 kw_75 kw_1185
theorem gl_126 : GoodIn zW (wsV R_law 126 RX12 yX12_need z_X12_need) := zGV kw_1814 kw_1815 kw_1816 kw_95 kw_1817
theorem gl_127 : GoodIn zW (wsV R_law 127 RX11 yX11_undo z_X11_undo) := zGV kw_1186 kw_1187 kw_1188 kw_75 kw_1189
theorem gl_130 : GoodIn zW (wsV R_law 130 RX12 yX12_undo z_X12_undo) := zGV kw_1587 kw_1588 kw_1589 kw_95 kw_1590
theorem gl_131 : GoodIn zW (wsV R_law 131 RX11 yX11_redo z_X11_redo) := zGV kw_1194 kw_1195 kw_1196 kw_75 kw_1197
theorem gl_134 : GoodIn zW (wsV R_law 134 RX12 yX12_redo z_X12_redo) := zGV kw_1595 kw_1596 kw_1597 kw_95 kw_1598
theorem gl_135 : GoodIn zW (wsV R_law 135 RX11 yX11_act z_X11_act) := zGV kw_1202 kw_1203 kw_1204 kw_75 kw_1205
theorem gl_138 : GoodIn zW (wsV R_law 138 RX12 yX12_act z_X12_act) := zGV kw_1818 kw_1819 kw_1820 kw_95 kw_1821
theorem gl_139 : GoodIn zW (wsV R_law 139 RX11 yX11_trace z_X11_trace) := zGV kw_1238 kw_1239 kw_1240 kw_75 kw_1241
theorem gl_142 : GoodIn zW (wsV R_law 142 RX12 yX12_trace z_X12_trace) := zGV kw_1865 kw_1866 kw_1867 kw_95 kw_1868
theorem gl_143 : GoodIn zW (wsV R_law 143 RX11 yX11_keep z_X11_keep) := zGV kw_1242 kw_1243 kw_1244 kw_75 kw_1245
theorem gl_146 : GoodIn zW (wsV R_law 146 RX12 yX12_keep z_X12_keep) := zGV kw_1873 kw_1874 kw_1875 kw_95 kw_1876
theorem gl_147 : GoodIn zW (wsV R_law 147 RX11 yX11_row z_X11_row) := zGV kw_1246 kw_1247 kw_1248 kw_75 kw_1249
theorem gl_150 : GoodIn zW (wsV R_law 150 RX12 yX12_row z_X12_row) := zGV kw_1877 kw_1878 kw_1879 kw_95 kw_1880
theorem gl_153 : GoodIn zW (wsV R_law 153 RX11 yX11_put z_X11_put) := zGV kw_1255 kw_1256 kw_1257 kw_75 kw_1258
theorem gl_157 : GoodIn zW (wsV R_law 157 RX12 yX12_put z_X12_put) := zGV kw_1881 kw_1882 kw_1883 kw_95 kw_1884
theorem gl_158 : GoodIn zW (wsV R_law 158 RX11 yX11_element z_X11_element) := zGV kw_1268 kw_1269 kw_1270 kw_75 kw_1271
theorem gl_161 : GoodIn zW (wsV R_law 161 RX12 yX12_element z_X12_element) := zGV kw_1889 kw_1890 kw_1891 kw_95 kw_1892
theorem gl_162 : GoodIn zW (wsV R_law 162 RX11 yX11_shift z_X11_shift) := zGV kw_1273 kw_1274 kw_1275 kw_75 kw_1276
theorem gl_166 : GoodIn zW (wsV R_law 166 RX12 yX12_shift z_X12_shift) := zGV kw_1894 kw_1895 kw_1896 kw_95 kw_1897
theorem gl_167 : GoodIn zW (wsV R_law 167 RX11 yX11_taken z_X11_taken) := zGV kw_1278 kw_1279 kw_1280 kw_75 kw_1281
theorem gl_170 : GoodIn zW (wsV R_law 170 RX12 yX12_taken z_X12_taken) := zGV kw_1898 kw_1899 kw_1900 kw_95 kw_1901
theorem gl_171 : GoodIn zW (wsV R_law 171 RX11 yX11_count z_X11_count) := zGV kw_1286 kw_1287 kw_1288 kw_75 kw_1289
theorem gl_174 : GoodIn zW (wsV R_law 174 RX12 yX12_count z_X12_count) := zGV kw_1869 kw_1870 kw_1871 kw_95 kw_1872
