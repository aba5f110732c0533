/-! a new other side -/
def fm (b k : Nat) : List Value := (List.range 43).map (fun j => if j < 2 then .int 0 else if j < 38 then (if j < 2 + k then .ref (b + (171 + j)) else .null) else .int 0)
theorem fm_len (b k : Nat) : (fm b k).length = 43 := by simp [fm]
theorem fm_set {b k : Nat} (hk : k < 36) : (fm b k).set (2 + k) (.ref (b + (173 + k))) = fm b (k + 1) := by
  apply List.ext_getElem?
  intro j
  unfold fm
  by_cases hj : j < 43
  · rw [List.getElem?_map, List.getElem?_range hj]
    by_cases e : 2 + k = j
    · subst e
      rw [List.getElem?_set_self (by simp; omega)]
      simp only [Option.map]
      rw [if_neg (by omega), if_pos (by omega), if_pos (by omega), show 171 + (2 + k) = 173 + k by omega]
    · rw [List.getElem?_set_ne e, List.getElem?_map, List.getElem?_range hj]
      simp only [Option.map]
      by_cases h1 : j < 2
      · rw [if_pos h1, if_pos h1]
      · by_cases h2 : j < 38
        · rw [if_neg h1, if_neg h1, if_pos h2, if_pos h2]
          by_cases h3 : j < 2 + k
          · rw [if_pos h3, if_pos (by omega)]
          · rw [if_neg h3, if_neg (by omega)]
        · rw [if_neg h1, if_neg h1, if_neg h2, if_neg h2]
  · rw [List.getElem?_eq_none (by simp; omega), List.getElem?_eq_none (by simp; omega)]
theorem tk_up_id {B : Nat → va_E} {n : Nat} {x : va_E} (h : B n = x) : va_up B n x = B := by
  funext a
  by_cases ha : a = n
  · subst ha
    rw [h]
    simp [va_up]
  · simp [va_up, ha]
abbrev tk_Ms (E : tk_E) (k : Nat) : Nat → va_E := tk_G 172 [.inr (9, fm E.1 k)] (tk_ct E MA)
theorem tk_Ms_at {E : tk_E} {k a : Nat} {x : va_E} (ha : 173 ≤ a) (h : tk_ct E MA a = x) : tk_Ms E k a = x := (tk_G_out (by simp; omega)).trans h
theorem F_172 {E : tk_E} : tk_ct E MA 172 = .inr (9, fm E.1 36) := rfl
theorem tk_Ms_all {E : tk_E} : tk_Ms E 36 = tk_ct E MA := tk_G_id (fun r x hx => by
  rcases Nat.eq_zero_or_pos r with rfl | h
  · exact F_172.trans (Option.some.inj hx)
  · rw [List.getElem?_eq_none (by simp; omega)] at hx
    cases hx)
def MB1 : Nat → tk_M
  | 0 => MA
  | j + 1 => wI (wI (wI (wI (wI (wL (MB1 j) 178 j 1) 179 j 1) 180 j (-1)) 181 j (-1)) 182 j (-1)) 187 j 1440
def MB2 : Nat → tk_M
  | 0 => MB1 8
  | j + 1 => wI (wI (wI (MB2 j) 197 j (-1)) 199 j (-1)) 202 j (-1)
def MB3 : Nat → tk_M
  | 0 => MB2 24
  | j + 1 => wI (MB3 j) 193 j 1
def M0 : tk_M := wI (wI (MB3 3) 194 0 1) 194 1 1
theorem F_173 {E : tk_E} : tk_ct E MA 173 = aI E 32 := by
  rw [tk_ct_a a_173 (by decide) (by decide), show MA.1 173 = (fun _ => 0) from funext (a1_ge (a := 173) (by decide))]
theorem F_174 {E : tk_E} : tk_ct E MA 174 = aI E 32 := by
  rw [tk_ct_a a_174 (by decide) (by decide), show MA.1 174 = (fun _ => 0) from funext (a1_ge (a := 174) (by decide))]
theorem F_175 {E : tk_E} : tk_ct E MA 175 = aI E 4 := by
  rw [tk_ct_a a_175 (by decide) (by decide), show MA.1 175 = (fun _ => 0) from funext (a1_ge (a := 175) (by decide))]
theorem F_176 {E : tk_E} : tk_ct E MA 176 = aI E 64 := by
  rw [tk_ct_a a_176 (by decide) (by decide), show MA.1 176 = (fun _ => 0) from funext (a1_ge (a := 176) (by decide))]
theorem F_177 {E : tk_E} : tk_ct E MA 177 = aI E 4 := by
  rw [tk_ct_a a_177 (by decide) (by decide), show MA.1 177 = (fun _ => 0) from funext (a1_ge (a := 177) (by decide))]
theorem F_178 {E : tk_E} : tk_ct E MA 178 = aL E 8 := by
  rw [tk_ct_l a_178, show MA.2.1 178 = (fun _ => 0) from funext (a2_ge (a := 178) (by decide))]
theorem F_179 {E : tk_E} : tk_ct E MA 179 = aI E 8 := by
  rw [tk_ct_a a_179 (by decide) (by decide), show MA.1 179 = (fun _ => 0) from funext (a1_ge (a := 179) (by decide))]
theorem F_180 {E : tk_E} : tk_ct E MA 180 = aI E 8 := by
  rw [tk_ct_a a_180 (by decide) (by decide), show MA.1 180 = (fun _ => 0) from funext (a1_ge (a := 180) (by decide))]
theorem F_181 {E : tk_E} : tk_ct E MA 181 = aI E 8 := by
  rw [tk_ct_a a_181 (by decide) (by decide), show MA.1 181 = (fun _ => 0) from funext (a1_ge (a := 181) (by decide))]
theorem F_182 {E : tk_E} : tk_ct E MA 182 = aI E 8 := by
  rw [tk_ct_a a_182 (by decide) (by decide), show MA.1 182 = (fun _ => 0) from funext (a1_ge (a := 182) (by decide))]
theorem F_183 {E : tk_E} : tk_ct E MA 183 = aI E 8 := by
  rw [tk_ct_a a_183 (by decide) (by decide), show MA.1 183 = (fun _ => 0) from funext (a1_ge (a := 183) (by decide))]
theorem F_184 {E : tk_E} : tk_ct E MA 184 = aI E 8 := by
  rw [tk_ct_a a_184 (by decide) (by decide), show MA.1 184 = (fun _ => 0) from funext (a1_ge (a := 184) (by decide))]
theorem F_185 {E : tk_E} : tk_ct E MA 185 = aI E 8 := by
  rw [tk_ct_a a_185 (by decide) (by decide), show MA.1 185 = (fun _ => 0) from funext (a1_ge (a := 185) (by decide))]
theorem F_186 {E : tk_E} : tk_ct E MA 186 = aI E 8 := by
  rw [tk_ct_a a_186 (by decide) (by decide), show MA.1 186 = (fun _ => 0) from funext (a1_ge (a := 186) (by decide))]
theorem F_187 {E : tk_E} : tk_ct E MA 187 = aI E 8 := by
  rw [tk_ct_a a_187 (by decide) (by decide), show MA.1 187 = (fun _ => 0) from funext (a1_ge (a := 187) (by decide))]
theorem F_188 {E : tk_E} : tk_ct E MA 188 = aI E 64 := by
  rw [tk_ct_a a_188 (by decide) (by decide), show MA.1 188 = (fun _ => 0) from funext (a1_ge (a := 188) (by decide))]
theorem F_189 {E : tk_E} : tk_ct E MA 189 = aI E 8 := by
  rw [tk_ct_a a_189 (by decide) (by decide), show MA.1 189 = (fun _ => 0) from funext (a1_ge (a := 189) (by decide))]
theorem F_190 {E : tk_E} : tk_ct E MA 190 = aI E 8 := by
  rw [tk_ct_a a_190 (by decide) (by decide), show MA.1 190 = (fun _ => 0) from funext (a1_ge (a := 190) (by decide))]
theorem F_191 {E : tk_E} : tk_ct E MA 191 = aZ E 8 := by
  rw [tk_ct_a a_191 (by decide) (by decide), show MA.1 191 = (fun _ => 0) from funext (a1_ge (a := 191) (by decide))]
theorem F_192 {E : tk_E} : tk_ct E MA 192 = aZ E 8 := by
  rw [tk_ct_a a_192 (by decide) (by decide), show MA.1 192 = (fun _ => 0) from funext (a1_ge (a := 192) (by decide))]
theorem F_193 {E : tk_E} : tk_ct E MA 193 = aZ E 3 := by
  rw [tk_ct_a a_193 (by decide) (by decide), show MA.1 193 = (fun _ => 0) from funext (a1_ge (a := 193) (by decide))]
theorem F_194 {E : tk_E} : tk_ct E MA 194 = aZ E 2 := by
  rw [tk_ct_a a_194 (by decide) (by decide), show MA.1 194 = (fun _ => 0) from funext (a1_ge (a := 194) (by decide))]
theorem F_195 {E : tk_E} : tk_ct E MA 195 = aI E 24 := by
  rw [tk_ct_a a_195 (by decide) (by decide), show MA.1 195 = (fun _ => 0) from funext (a1_ge (a := 195) (by decide))]
theorem F_196 {E : tk_E} : tk_ct E MA 196 = aI E 24 := by
  rw [tk_ct_a a_196 (by decide) (by decide), show MA.1 196 = (fun _ => 0) from funext (a1_ge (a := 196) (by decide))]
theorem F_197 {E : tk_E} : tk_ct E MA 197 = aI E 24 := by
  rw [tk_ct_a a_197 (by decide) (by decide), show MA.1 197 = (fun _ => 0) from funext (a1_ge (a := 197) (by decide))]
theorem F_198 {E : tk_E} : tk_ct E MA 198 = aI E 24 := by
  rw [tk_ct_a a_198 (by decide) (by decide), show MA.1 198 = (fun _ => 0) from funext (a1_ge (a := 198) (by decide))]
theorem F_199 {E : tk_E} : tk_ct E MA 199 = aI E 24 := by
  rw [tk_ct_a a_199 (by decide) (by decide), show MA.1 199 = (fun _ => 0) from funext (a1_ge (a := 199) (by decide))]
theorem F_200 {E : tk_E} : tk_ct E MA 200 = aI E 24 := by
  rw [tk_ct_a a_200 (by decide) (by decide), show MA.1 200 = (fun _ => 0) from funext (a1_ge (a := 200) (by decide))]
theorem F_201 {E : tk_E} : tk_ct E MA 201 = aI E 24 := by
  rw [tk_ct_a a_201 (by decide) (by decide), show MA.1 201 = (fun _ => 0) from funext (a1_ge (a := 201) (by decide))]
theorem F_202 {E : tk_E} : tk_ct E MA 202 = aI E 24 := by
  rw [tk_ct_a a_202 (by decide) (by decide), show MA.1 202 = (fun _ => 0) from funext (a1_ge (a := 202) (by decide))]
theorem F_203 {E : tk_E} : tk_ct E MA 203 = aI E 24 := by
  rw [tk_ct_a a_203 (by decide) (by decide), show MA.1 203 = (fun _ => 0) from funext (a1_ge (a := 203) (by decide))]
theorem F_204 {E : tk_E} : tk_ct E MA 204 = aI E 8 := by
  rw [tk_ct_a a_204 (by decide) (by decide), show MA.1 204 = (fun _ => 0) from funext (a1_ge (a := 204) (by decide))]
theorem F_205 {E : tk_E} : tk_ct E MA 205 = aI E 8 := by
  rw [tk_ct_a a_205 (by decide) (by decide), show MA.1 205 = (fun _ => 0) from funext (a1_ge (a := 205) (by decide))]
theorem F_206 {E : tk_E} : tk_ct E MA 206 = aI E 320 := by
  rw [tk_ct_a a_206 (by decide) (by decide), show MA.1 206 = (fun _ => 0) from funext (a1_ge (a := 206) (by decide))]
theorem F_207 {E : tk_E} : tk_ct E MA 207 = aI E 320 := by
  rw [tk_ct_a a_207 (by decide) (by decide), show MA.1 207 = (fun _ => 0) from funext (a1_ge (a := 207) (by decide))]
theorem F_208 {E : tk_E} : tk_ct E MA 208 = aI E 480 := by
  rw [tk_ct_a a_208 (by decide) (by decide), show MA.1 208 = (fun _ => 0) from funext (a1_ge (a := 208) (by decide))]
set_option maxHeartbeats 8000000 in
set_option maxRecDepth 100000 in
theorem i_M {l : Launch} {E : tk_E} : tk_Met l y_M_init b_M_init 2 none 1 E [.ref (E.1 + 172)] 173 (tk_G 172 [.inr (9, dv_M)] (tk_ct E MA)) 209 (tk_ct E M0) none 36 1669 := by
  refine tk_ofV (by decide +kernel) [some (.ref (E.1 + 172)), none] rfl (Nat.le_of_ble_eq_true rfl) ?_
  intro p e s m args below meth c cx hB
  have l3 : ∀ k q : Nat, q + k = 3 → tk_V p l e (tk_rm 1 36 1669) s m args below meth c (MQ below (tk_Q E 209 (tk_ct E M0) none) args s 36 1669 (tk_A E)) E 2 209 (tk_ct E (MB3 q)) 36 1669 386 [some (.ref (E.1 + 172)), some (.int (nI q))] [] := by
    intro k
    induction k with
    | zero =>
      intro q hq
      have : q = 3 := by omega
      subst this
      refine v_iload_n cx (tk_dc d_M_init 207 rfl) rfl ?_
      refine v_iconst cx (tk_dc d_M_init 208 rfl) (3) (by decide) ?_
      refine v_icmp_ge cx (tk_dc d_M_init 209 rfl) 404 (by decide) (fun _ => ?_) (fun h => absurd (by decide) h)
      refine v_aload_n cx (tk_dc d_M_init 217 rfl) rfl ?_
      refine v_getC cx 194 (tk_dc d_M_init 218 rfl) f_M_75 o_M (by decide) (by rfl) ?_
      refine v_iconst cx (tk_dc d_M_init 219 rfl) (0) (by decide) ?_
      refine v_iconst cx (tk_dc d_M_init 220 rfl) (1) (by decide) ?_
      refine w_zast cx (tk_dc d_M_init 221 rfl) a_194 0 (rfl) (by omega) (by decide) (by first | exact Or.inl rfl | exact Or.inr rfl | assumption) ?_
      refine v_aload_n cx (tk_dc d_M_init 222 rfl) rfl ?_
      refine v_getC cx 194 (tk_dc d_M_init 223 rfl) f_M_75 o_M (by decide) (by rfl) ?_
      refine v_iconst cx (tk_dc d_M_init 224 rfl) (1) (by decide) ?_
      refine v_iconst cx (tk_dc d_M_init 225 rfl) (1) (by decide) ?_
      refine w_zast cx (tk_dc d_M_init 226 rfl) a_194 1 (rfl) (by omega) (by decide) (by first | exact Or.inl rfl | exact Or.inr rfl | assumption) ?_
      exact v_vret1 cx hB (tk_dc d_M_init 227 rfl) (fun a _ => rfl) (by omega) (by omega)
    | succ k ih =>
      intro q hq
      refine v_iload_n cx (tk_dc d_M_init 207 rfl) rfl ?_
      refine v_iconst cx (tk_dc d_M_init 208 rfl) (3) (by decide) ?_
      refine v_icmp_ge cx (tk_dc d_M_init 209 rfl) 404 (by decide) (fun h => absurd h (Int32.not_le.mpr (nI_lt (b := 3) (by omega) (by decide)))) (fun _ => ?_)
      refine v_aload_n cx (tk_dc d_M_init 210 rfl) rfl ?_
      refine v_getC cx 193 (tk_dc d_M_init 211 rfl) f_M_72 o_M (by decide) (by rfl) ?_
      refine v_iload_n cx (tk_dc d_M_init 212 rfl) rfl ?_
      refine v_iconst cx (tk_dc d_M_init 213 rfl) (1) (by decide) ?_
      refine w_zast cx (tk_dc d_M_init 214 rfl) a_193 q (rfl) (by omega) (by decide) (by first | exact Or.inl rfl | exact Or.inr rfl | assumption) ?_
      refine v_iinc (lo' := [_, _]) cx (tk_dc d_M_init 215 rfl) rfl (nI (q + 1)) ((nI_succ q).symm) (by decide) rfl ?_
      refine v_goto cx (tk_dc d_M_init 216 rfl) 386 (by decide) ?_
      exact ih (q + 1) (by omega)
  have l2 : ∀ k q : Nat, q + k = 24 → tk_V p l e (tk_rm 1 36 1669) s m args below meth c (MQ below (tk_Q E 209 (tk_ct E M0) none) args s 36 1669 (tk_A E)) E 2 209 (tk_ct E (MB2 q)) 36 1669 351 [some (.ref (E.1 + 172)), some (.int (nI q))] [] := by
    intro k
    induction k with
    | zero =>
      intro q hq
      have : q = 24 := by omega
      subst this
      refine v_iload_n cx (tk_dc d_M_init 185 rfl) rfl ?_
      refine v_bipush cx (tk_dc d_M_init 186 rfl) (24) (by decide) ?_
      refine v_icmp_ge cx (tk_dc d_M_init 187 rfl) 384 (by decide) (fun _ => ?_) (fun h => absurd (by decide) h)
      refine v_iconst cx (tk_dc d_M_init 205 rfl) (0) (by decide) ?_
      refine v_istore_n (lo' := [_, _]) cx (tk_dc d_M_init 206 rfl) (by decide) rfl ?_
      exact l3 3 0 rfl
    | succ k ih =>
      intro q hq
      refine v_iload_n cx (tk_dc d_M_init 185 rfl) rfl ?_
      refine v_bipush cx (tk_dc d_M_init 186 rfl) (24) (by decide) ?_
      refine v_icmp_ge cx (tk_dc d_M_init 187 rfl) 384 (by decide) (fun h => absurd h (Int32.not_le.mpr (nI_lt (b := 24) (by omega) (by decide)))) (fun _ => ?_)
      refine v_aload_n cx (tk_dc d_M_init 188 rfl) rfl ?_
      refine v_getC cx 197 (tk_dc d_M_init 189 rfl) f_M_84 o_M (by decide) (by rfl) ?_
      refine v_iload_n cx (tk_dc d_M_init 190 rfl) rfl ?_
      refine v_iconst cx (tk_dc d_M_init 191 rfl) (-1) (by decide) ?_
      refine w_iast cx (tk_dc d_M_init 192 rfl) a_197 q (rfl) (by omega) (by decide) ?_
      refine v_aload_n cx (tk_dc d_M_init 193 rfl) rfl ?_
      refine v_getC cx 199 (tk_dc d_M_init 194 rfl) f_M_90 o_M (by decide) (by rfl) ?_
      refine v_iload_n cx (tk_dc d_M_init 195 rfl) rfl ?_
      refine v_iconst cx (tk_dc d_M_init 196 rfl) (-1) (by decide) ?_
      refine w_iast cx (tk_dc d_M_init 197 rfl) a_199 q (rfl) (by omega) (by decide) ?_
      refine v_aload_n cx (tk_dc d_M_init 198 rfl) rfl ?_
      refine v_getC cx 202 (tk_dc d_M_init 199 rfl) f_M_99 o_M (by decide) (by rfl) ?_
      refine v_iload_n cx (tk_dc d_M_init 200 rfl) rfl ?_
      refine v_iconst cx (tk_dc d_M_init 201 rfl) (-1) (by decide) ?_
      refine w_iast cx (tk_dc d_M_init 202 rfl) a_202 q (rfl) (by omega) (by decide) ?_
      refine v_iinc (lo' := [_, _]) cx (tk_dc d_M_init 203 rfl) rfl (nI (q + 1)) ((nI_succ q).symm) (by decide) rfl ?_
      refine v_goto cx (tk_dc d_M_init 204 rfl) 351 (by decide) ?_
      exact ih (q + 1) (by omega)
  have l1 : ∀ k q : Nat, q + k = 8 → tk_V p l e (tk_rm 1 36 1669) s m args below meth c (MQ below (tk_Q E 209 (tk_ct E M0) none) args s 36 1669 (tk_A E)) E 2 209 (tk_ct E (MB1 q)) 36 1669 293 [some (.ref (E.1 + 172)), some (.int (nI q))] [] := by
    intro k
    induction k with
    | zero =>
      intro q hq
      have : q = 8 := by omega
      subst this
      refine v_iload_n cx (tk_dc d_M_init 148 rfl) rfl ?_
      refine v_bipush cx (tk_dc d_M_init 149 rfl) (8) (by decide) ?_
      refine v_icmp_ge cx (tk_dc d_M_init 150 rfl) 349 (by decide) (fun _ => ?_) (fun h => absurd (by decide) h)
      refine v_iconst cx (tk_dc d_M_init 183 rfl) (0) (by decide) ?_
      refine v_istore_n (lo' := [_, _]) cx (tk_dc d_M_init 184 rfl) (by decide) rfl ?_
      exact l2 24 0 rfl
    | succ k ih =>
      intro q hq
      refine v_iload_n cx (tk_dc d_M_init 148 rfl) rfl ?_
      refine v_bipush cx (tk_dc d_M_init 149 rfl) (8) (by decide) ?_
      refine v_icmp_ge cx (tk_dc d_M_init 150 rfl) 349 (by decide) (fun h => absurd h (Int32.not_le.mpr (nI_lt (b := 8) (by omega) (by decide)))) (fun _ => ?_)
      refine v_aload_n cx (tk_dc d_M_init 151 rfl) rfl ?_
      refine v_getC cx 178 (tk_dc d_M_init 152 rfl) f_M_25 o_M (by decide) (by rfl) ?_
      refine v_iload_n cx (tk_dc d_M_init 153 rfl) rfl ?_
      refine v_lconst cx (tk_dc d_M_init 154 rfl) (1) (by decide) ?_
      refine w_last cx (tk_dc d_M_init 155 rfl) a_178 q (rfl) (by omega) (by decide) ?_
      refine v_aload_n cx (tk_dc d_M_init 156 rfl) rfl ?_
      refine v_getC cx 179 (tk_dc d_M_init 157 rfl) f_M_29 o_M (by decide) (by rfl) ?_
      refine v_iload_n cx (tk_dc d_M_init 158 rfl) rfl ?_
      refine v_iconst cx (tk_dc d_M_init 159 rfl) (1) (by decide) ?_
      refine w_iast cx (tk_dc d_M_init 160 rfl) a_179 q (rfl) (by omega) (by decide) ?_
      refine v_aload_n cx (tk_dc d_M_init 161 rfl) rfl ?_
      refine v_getC cx 180 (tk_dc d_M_init 162 rfl) f_M_32 o_M (by decide) (by rfl) ?_
      refine v_iload_n cx (tk_dc d_M_init 163 rfl) rfl ?_
      refine v_iconst cx (tk_dc d_M_init 164 rfl) (-1) (by decide) ?_
      refine w_iast cx (tk_dc d_M_init 165 rfl) a_180 q (rfl) (by omega) (by decide) ?_
      refine v_aload_n cx (tk_dc d_M_init 166 rfl) rfl ?_
      refine v_getC cx 181 (tk_dc d_M_init 167 rfl) f_M_35 o_M (by decide) (by rfl) ?_
      refine v_iload_n cx (tk_dc d_M_init 168 rfl) rfl ?_
      refine v_iconst cx (tk_dc d_M_init 169 rfl) (-1) (by decide) ?_
      refine w_iast cx (tk_dc d_M_init 170 rfl) a_181 q (rfl) (by omega) (by decide) ?_
      refine v_aload_n cx (tk_dc d_M_init 171 rfl) rfl ?_
      refine v_getC cx 182 (tk_dc d_M_init 172 rfl) f_M_38 o_M (by decide) (by rfl) ?_
      refine v_iload_n cx (tk_dc d_M_init 173 rfl) rfl ?_
      refine v_iconst cx (tk_dc d_M_init 174 rfl) (-1) (by decide) ?_
      refine w_iast cx (tk_dc d_M_init 175 rfl) a_182 q (rfl) (by omega) (by decide) ?_
      refine v_aload_n cx (tk_dc d_M_init 176 rfl) rfl ?_
      refine v_getC cx 187 (tk_dc d_M_init 177 rfl) f_M_53 o_M (by decide) (by rfl) ?_
      refine v_iload_n cx (tk_dc d_M_init 178 rfl) rfl ?_
      refine v_sipush cx (tk_dc d_M_init 179 rfl) (1440) (by decide) ?_
      refine w_iast cx (tk_dc d_M_init 180 rfl) a_187 q (rfl) (by omega) (by decide) ?_
      refine v_iinc (lo' := [_, _]) cx (tk_dc d_M_init 181 rfl) rfl (nI (q + 1)) ((nI_succ q).symm) (by decide) rfl ?_
      refine v_goto cx (tk_dc d_M_init 182 rfl) 293 (by decide) ?_
      exact ih (q + 1) (by omega)
  refine v_aload_n cx (tk_dc d_M_init 0 rfl) rfl ?_
  refine v_objI cx (tk_dc d_M_init 1 rfl) m_M_1 (Nat.le_of_ble_eq_true rfl) ?_
  refine v_eqF (C' := tk_Ms E 0) rfl ?_
  refine v_aload_n cx (tk_dc d_M_init 2 rfl) rfl ?_
  refine v_bipush cx (tk_dc d_M_init 3 rfl) (32) (by decide) ?_
  refine v_newa1 (n := 173) cx (32, .inl (fun _ => 0)) 0 32 (tk_dc d_M_init 4 rfl) ac_I rfl rfl rfl (fun _ => rfl) (by decide) (by decide) (by decide) ⟨Nat.le_of_ble_eq_true rfl, Nat.le_of_ble_eq_true rfl⟩ (by decide) ?_
  refine v_eqF (C' := tk_Ms E 0) (tk_up_id (tk_Ms_at (by decide) F_173)) ?_
  refine v_putFG (n := 174) cx hB rfl (tk_dc d_M_init 5 rfl) f_M_7 (tk_tb 659 (by decide +kernel)) (by decide) (by rw [fm_len]; decide) rfl rfl rfl rfl (fm E.1 1) (fm_set (k := 0) (by decide)) ?_
  refine v_aload_n cx (tk_dc d_M_init 6 rfl) rfl ?_
  refine v_bipush cx (tk_dc d_M_init 7 rfl) (32) (by decide) ?_
  refine v_newa1 (n := 174) cx (32, .inl (fun _ => 0)) 0 32 (tk_dc d_M_init 8 rfl) ac_I rfl rfl rfl (fun _ => rfl) (by decide) (by decide) (by decide) ⟨Nat.le_of_ble_eq_true rfl, Nat.le_of_ble_eq_true rfl⟩ (by decide) ?_
  refine v_eqF (C' := tk_Ms E 1) (tk_up_id (tk_Ms_at (by decide) F_174)) ?_
  refine v_putFG (n := 175) cx hB rfl (tk_dc d_M_init 9 rfl) f_M_13 (tk_tb 660 (by decide +kernel)) (by decide) (by rw [fm_len]; decide) rfl rfl rfl rfl (fm E.1 2) (fm_set (k := 1) (by decide)) ?_
  refine v_aload_n cx (tk_dc d_M_init 10 rfl) rfl ?_
  refine v_iconst cx (tk_dc d_M_init 11 rfl) (4) (by decide) ?_
  refine v_newa1 (n := 175) cx (4, .inl (fun _ => 0)) 0 4 (tk_dc d_M_init 12 rfl) ac_I rfl rfl rfl (fun _ => rfl) (by decide) (by decide) (by decide) ⟨Nat.le_of_ble_eq_true rfl, Nat.le_of_ble_eq_true rfl⟩ (by decide) ?_
  refine v_eqF (C' := tk_Ms E 2) (tk_up_id (tk_Ms_at (by decide) F_175)) ?_
  refine v_putFG (n := 176) cx hB rfl (tk_dc d_M_init 13 rfl) f_M_16 (tk_tb 661 (by decide +kernel)) (by decide) (by rw [fm_len]; decide) rfl rfl rfl rfl (fm E.1 3) (fm_set (k := 2) (by decide)) ?_
  refine v_aload_n cx (tk_dc d_M_init 14 rfl) rfl ?_
  refine v_bipush cx (tk_dc d_M_init 15 rfl) (64) (by decide) ?_
  refine v_newa1 (n := 176) cx (64, .inl (fun _ => 0)) 0 64 (tk_dc d_M_init 16 rfl) ac_I rfl rfl rfl (fun _ => rfl) (by decide) (by decide) (by decide) ⟨Nat.le_of_ble_eq_true rfl, Nat.le_of_ble_eq_true rfl⟩ (by decide) ?_
  refine v_eqF (C' := tk_Ms E 3) (tk_up_id (tk_Ms_at (by decide) F_176)) ?_
  refine v_putFG (n := 177) cx hB rfl (tk_dc d_M_init 17 rfl) f_M_19 (tk_tb 662 (by decide +kernel)) (by decide) (by rw [fm_len]; decide) rfl rfl rfl rfl (fm E.1 4) (fm_set (k := 3) (by decide)) ?_
  refine v_aload_n cx (tk_dc d_M_init 18 rfl) rfl ?_
  refine v_iconst cx (tk_dc d_M_init 19 rfl) (4) (by decide) ?_
  refine v_newa1 (n := 177) cx (4, .inl (fun _ => 0)) 0 4 (tk_dc d_M_init 20 rfl) ac_I rfl rfl rfl (fun _ => rfl) (by decide) (by decide) (by decide) ⟨Nat.le_of_ble_eq_true rfl, Nat.le_of_ble_eq_true rfl⟩ (by decide) ?_
  refine v_eqF (C' := tk_Ms E 4) (tk_up_id (tk_Ms_at (by decide) F_177)) ?_
  refine v_putFG (n := 178) cx hB rfl (tk_dc d_M_init 21 rfl) f_M_22 (tk_tb 663 (by decide +kernel)) (by decide) (by rw [fm_len]; decide) rfl rfl rfl rfl (fm E.1 5) (fm_set (k := 4) (by decide)) ?_
  refine v_aload_n cx (tk_dc d_M_init 22 rfl) rfl ?_
  refine v_bipush cx (tk_dc d_M_init 23 rfl) (8) (by decide) ?_
  refine v_newa1 (n := 178) cx (8, .inr (.inl (fun _ => 0))) 2 8 (tk_dc d_M_init 24 rfl) ac_L rfl rfl rfl (fun _ => rfl) (by decide) (by decide) (by decide) ⟨Nat.le_of_ble_eq_true rfl, Nat.le_of_ble_eq_true rfl⟩ (by decide) ?_
  refine v_eqF (C' := tk_Ms E 5) (tk_up_id (tk_Ms_at (by decide) F_178)) ?_
  refine v_putFG (n := 179) cx hB rfl (tk_dc d_M_init 25 rfl) f_M_25 (tk_tb 664 (by decide +kernel)) (by decide) (by rw [fm_len]; decide) rfl rfl rfl rfl (fm E.1 6) (fm_set (k := 5) (by decide)) ?_
  refine v_aload_n cx (tk_dc d_M_init 26 rfl) rfl ?_
  refine v_bipush cx (tk_dc d_M_init 27 rfl) (8) (by decide) ?_
  refine v_newa1 (n := 179) cx (8, .inl (fun _ => 0)) 0 8 (tk_dc d_M_init 28 rfl) ac_I rfl rfl rfl (fun _ => rfl) (by decide) (by decide) (by decide) ⟨Nat.le_of_ble_eq_true rfl, Nat.le_of_ble_eq_true rfl⟩ (by decide) ?_
  refine v_eqF (C' := tk_Ms E 6) (tk_up_id (tk_Ms_at (by decide) F_179)) ?_
  refine v_putFG (n := 180) cx hB rfl (tk_dc d_M_init 29 rfl) f_M_29 (tk_tb 665 (by decide +kernel)) (by decide) (by rw [fm_len]; decide) rfl rfl rfl rfl (fm E.1 7) (fm_set (k := 6) (by decide)) ?_
  refine v_aload_n cx (tk_dc d_M_init 30 rfl) rfl ?_
  refine v_bipush cx (tk_dc d_M_init 31 rfl) (8) (by decide) ?_
  refine v_newa1 (n := 180) cx (8, .inl (fun _ => 0)) 0 8 (tk_dc d_M_init 32 rfl) ac_I rfl rfl rfl (fun _ => rfl) (by decide) (by decide) (by decide) ⟨Nat.le_of_ble_eq_true rfl, Nat.le_of_ble_eq_true rfl⟩ (by decide) ?_
  refine v_eqF (C' := tk_Ms E 7) (tk_up_id (tk_Ms_at (by decide) F_180)) ?_
  refine v_putFG (n := 181) cx hB rfl (tk_dc d_M_init 33 rfl) f_M_32 (tk_tb 666 (by decide +kernel)) (by decide) (by rw [fm_len]; decide) rfl rfl rfl rfl (fm E.1 8) (fm_set (k := 7) (by decide)) ?_
  refine v_aload_n cx (tk_dc d_M_init 34 rfl) rfl ?_
  refine v_bipush cx (tk_dc d_M_init 35 rfl) (8) (by decide) ?_
  refine v_newa1 (n := 181) cx (8, .inl (fun _ => 0)) 0 8 (tk_dc d_M_init 36 rfl) ac_I rfl rfl rfl (fun _ => rfl) (by decide) (by decide) (by decide) ⟨Nat.le_of_ble_eq_true rfl, Nat.le_of_ble_eq_true rfl⟩ (by decide) ?_
  refine v_eqF (C' := tk_Ms E 8) (tk_up_id (tk_Ms_at (by decide) F_181)) ?_
  refine v_putFG (n := 182) cx hB rfl (tk_dc d_M_init 37 rfl) f_M_35 (tk_tb 667 (by decide +kernel)) (by decide) (by rw [fm_len]; decide) rfl rfl rfl rfl (fm E.1 9) (fm_set (k := 8) (by decide)) ?_
  refine v_aload_n cx (tk_dc d_M_init 38 rfl) rfl ?_
  refine v_bipush cx (tk_dc d_M_init 39 rfl) (8) (by decide) ?_
  refine v_newa1 (n := 182) cx (8, .inl (fun _ => 0)) 0 8 (tk_dc d_M_init 40 rfl) ac_I rfl rfl rfl (fun _ => rfl) (by decide) (by decide) (by decide) ⟨Nat.le_of_ble_eq_true rfl, Nat.le_of_ble_eq_true rfl⟩ (by decide) ?_
  refine v_eqF (C' := tk_Ms E 9) (tk_up_id (tk_Ms_at (by decide) F_182)) ?_
  refine v_putFG (n := 183) cx hB rfl (tk_dc d_M_init 41 rfl) f_M_38 (tk_tb 668 (by decide +kernel)) (by decide) (by rw [fm_len]; decide) rfl rfl rfl rfl (fm E.1 10) (fm_set (k := 9) (by decide)) ?_
  refine v_aload_n cx (tk_dc d_M_init 42 rfl) rfl ?_
  refine v_bipush cx (tk_dc d_M_init 43 rfl) (8) (by decide) ?_
  refine v_newa1 (n := 183) cx (8, .inl (fun _ => 0)) 0 8 (tk_dc d_M_init 44 rfl) ac_I rfl rfl rfl (fun _ => rfl) (by decide) (by decide) (by decide) ⟨Nat.le_of_ble_eq_true rfl, Nat.le_of_ble_eq_true rfl⟩ (by decide) ?_
  refine v_eqF (C' := tk_Ms E 10) (tk_up_id (tk_Ms_at (by decide) F_183)) ?_
  refine v_putFG (n := 184) cx hB rfl (tk_dc d_M_init 45 rfl) f_M_41 (tk_tb 669 (by decide +kernel)) (by decide) (by rw [fm_len]; decide) rfl rfl rfl rfl (fm E.1 11) (fm_set (k := 10) (by decide)) ?_
  refine v_aload_n cx (tk_dc d_M_init 46 rfl) rfl ?_
  refine v_bipush cx (tk_dc d_M_init 47 rfl) (8) (by decide) ?_
  refine v_newa1 (n := 184) cx (8, .inl (fun _ => 0)) 0 8 (tk_dc d_M_init 48 rfl) ac_I rfl rfl rfl (fun _ => rfl) (by decide) (by decide) (by decide) ⟨Nat.le_of_ble_eq_true rfl, Nat.le_of_ble_eq_true rfl⟩ (by decide) ?_
  refine v_eqF (C' := tk_Ms E 11) (tk_up_id (tk_Ms_at (by decide) F_184)) ?_
  refine v_putFG (n := 185) cx hB rfl (tk_dc d_M_init 49 rfl) f_M_44 (tk_tb 670 (by decide +kernel)) (by decide) (by rw [fm_len]; decide) rfl rfl rfl rfl (fm E.1 12) (fm_set (k := 11) (by decide)) ?_
  refine v_aload_n cx (tk_dc d_M_init 50 rfl) rfl ?_
  refine v_bipush cx (tk_dc d_M_init 51 rfl) (8) (by decide) ?_
  refine v_newa1 (n := 185) cx (8, .inl (fun _ => 0)) 0 8 (tk_dc d_M_init 52 rfl) ac_I rfl rfl rfl (fun _ => rfl) (by decide) (by decide) (by decide) ⟨Nat.le_of_ble_eq_true rfl, Nat.le_of_ble_eq_true rfl⟩ (by decide) ?_
  refine v_eqF (C' := tk_Ms E 12) (tk_up_id (tk_Ms_at (by decide) F_185)) ?_
  refine v_putFG (n := 186) cx hB rfl (tk_dc d_M_init 53 rfl) f_M_47 (tk_tb 671 (by decide +kernel)) (by decide) (by rw [fm_len]; decide) rfl rfl rfl rfl (fm E.1 13) (fm_set (k := 12) (by decide)) ?_
  refine v_aload_n cx (tk_dc d_M_init 54 rfl) rfl ?_
  refine v_bipush cx (tk_dc d_M_init 55 rfl) (8) (by decide) ?_
  refine v_newa1 (n := 186) cx (8, .inl (fun _ => 0)) 0 8 (tk_dc d_M_init 56 rfl) ac_I rfl rfl rfl (fun _ => rfl) (by decide) (by decide) (by decide) ⟨Nat.le_of_ble_eq_true rfl, Nat.le_of_ble_eq_true rfl⟩ (by decide) ?_
  refine v_eqF (C' := tk_Ms E 13) (tk_up_id (tk_Ms_at (by decide) F_186)) ?_
  refine v_putFG (n := 187) cx hB rfl (tk_dc d_M_init 57 rfl) f_M_50 (tk_tb 672 (by decide +kernel)) (by decide) (by rw [fm_len]; decide) rfl rfl rfl rfl (fm E.1 14) (fm_set (k := 13) (by decide)) ?_
  refine v_aload_n cx (tk_dc d_M_init 58 rfl) rfl ?_
  refine v_bipush cx (tk_dc d_M_init 59 rfl) (8) (by decide) ?_
  refine v_newa1 (n := 187) cx (8, .inl (fun _ => 0)) 0 8 (tk_dc d_M_init 60 rfl) ac_I rfl rfl rfl (fun _ => rfl) (by decide) (by decide) (by decide) ⟨Nat.le_of_ble_eq_true rfl, Nat.le_of_ble_eq_true rfl⟩ (by decide) ?_
  refine v_eqF (C' := tk_Ms E 14) (tk_up_id (tk_Ms_at (by decide) F_187)) ?_
  refine v_putFG (n := 188) cx hB rfl (tk_dc d_M_init 61 rfl) f_M_53 (tk_tb 673 (by decide +kernel)) (by decide) (by rw [fm_len]; decide) rfl rfl rfl rfl (fm E.1 15) (fm_set (k := 14) (by decide)) ?_
  refine v_aload_n cx (tk_dc d_M_init 62 rfl) rfl ?_
  refine v_bipush cx (tk_dc d_M_init 63 rfl) (64) (by decide) ?_
  refine v_newa1 (n := 188) cx (64, .inl (fun _ => 0)) 0 64 (tk_dc d_M_init 64 rfl) ac_I rfl rfl rfl (fun _ => rfl) (by decide) (by decide) (by decide) ⟨Nat.le_of_ble_eq_true rfl, Nat.le_of_ble_eq_true rfl⟩ (by decide) ?_
  refine v_eqF (C' := tk_Ms E 15) (tk_up_id (tk_Ms_at (by decide) F_188)) ?_
  refine v_putFG (n := 189) cx hB rfl (tk_dc d_M_init 65 rfl) f_M_56 (tk_tb 674 (by decide +kernel)) (by decide) (by rw [fm_len]; decide) rfl rfl rfl rfl (fm E.1 16) (fm_set (k := 15) (by decide)) ?_
  refine v_aload_n cx (tk_dc d_M_init 66 rfl) rfl ?_
  refine v_bipush cx (tk_dc d_M_init 67 rfl) (8) (by decide) ?_
  refine v_newa1 (n := 189) cx (8, .inl (fun _ => 0)) 0 8 (tk_dc d_M_init 68 rfl) ac_I rfl rfl rfl (fun _ => rfl) (by decide) (by decide) (by decide) ⟨Nat.le_of_ble_eq_true rfl, Nat.le_of_ble_eq_true rfl⟩ (by decide) ?_
  refine v_eqF (C' := tk_Ms E 16) (tk_up_id (tk_Ms_at (by decide) F_189)) ?_
  refine v_putFG (n := 190) cx hB rfl (tk_dc d_M_init 69 rfl) f_M_59 (tk_tb 675 (by decide +kernel)) (by decide) (by rw [fm_len]; decide) rfl rfl rfl rfl (fm E.1 17) (fm_set (k := 16) (by decide)) ?_
  refine v_aload_n cx (tk_dc d_M_init 70 rfl) rfl ?_
  refine v_bipush cx (tk_dc d_M_init 71 rfl) (8) (by decide) ?_
  refine v_newa1 (n := 190) cx (8, .inl (fun _ => 0)) 0 8 (tk_dc d_M_init 72 rfl) ac_I rfl rfl rfl (fun _ => rfl) (by decide) (by decide) (by decide) ⟨Nat.le_of_ble_eq_true rfl, Nat.le_of_ble_eq_true rfl⟩ (by decide) ?_
  refine v_eqF (C' := tk_Ms E 17) (tk_up_id (tk_Ms_at (by decide) F_190)) ?_
  refine v_putFG (n := 191) cx hB rfl (tk_dc d_M_init 73 rfl) f_M_62 (tk_tb 676 (by decide +kernel)) (by decide) (by rw [fm_len]; decide) rfl rfl rfl rfl (fm E.1 18) (fm_set (k := 17) (by decide)) ?_
  refine v_aload_n cx (tk_dc d_M_init 74 rfl) rfl ?_
  refine v_bipush cx (tk_dc d_M_init 75 rfl) (8) (by decide) ?_
  refine v_newa1 (n := 191) cx (8, .inl (fun _ => 0)) 1 8 (tk_dc d_M_init 76 rfl) ac_Z rfl rfl rfl (fun _ => rfl) (by decide) (by decide) (by decide) ⟨Nat.le_of_ble_eq_true rfl, Nat.le_of_ble_eq_true rfl⟩ (by decide) ?_
  refine v_eqF (C' := tk_Ms E 18) (tk_up_id (tk_Ms_at (by decide) F_191)) ?_
  refine v_putFG (n := 192) cx hB rfl (tk_dc d_M_init 77 rfl) f_M_65 (tk_tb 677 (by decide +kernel)) (by decide) (by rw [fm_len]; decide) rfl rfl rfl rfl (fm E.1 19) (fm_set (k := 18) (by decide)) ?_
  refine v_aload_n cx (tk_dc d_M_init 78 rfl) rfl ?_
  refine v_bipush cx (tk_dc d_M_init 79 rfl) (8) (by decide) ?_
  refine v_newa1 (n := 192) cx (8, .inl (fun _ => 0)) 1 8 (tk_dc d_M_init 80 rfl) ac_Z rfl rfl rfl (fun _ => rfl) (by decide) (by decide) (by decide) ⟨Nat.le_of_ble_eq_true rfl, Nat.le_of_ble_eq_true rfl⟩ (by decide) ?_
  refine v_eqF (C' := tk_Ms E 19) (tk_up_id (tk_Ms_at (by decide) F_192)) ?_
  refine v_putFG (n := 193) cx hB rfl (tk_dc d_M_init 81 rfl) f_M_69 (tk_tb 678 (by decide +kernel)) (by decide) (by rw [fm_len]; decide) rfl rfl rfl rfl (fm E.1 20) (fm_set (k := 19) (by decide)) ?_
  refine v_aload_n cx (tk_dc d_M_init 82 rfl) rfl ?_
  refine v_iconst cx (tk_dc d_M_init 83 rfl) (3) (by decide) ?_
  refine v_newa1 (n := 193) cx (3, .inl (fun _ => 0)) 1 3 (tk_dc d_M_init 84 rfl) ac_Z rfl rfl rfl (fun _ => rfl) (by decide) (by decide) (by decide) ⟨Nat.le_of_ble_eq_true rfl, Nat.le_of_ble_eq_true rfl⟩ (by decide) ?_
  refine v_eqF (C' := tk_Ms E 20) (tk_up_id (tk_Ms_at (by decide) F_193)) ?_
  refine v_putFG (n := 194) cx hB rfl (tk_dc d_M_init 85 rfl) f_M_72 (tk_tb 679 (by decide +kernel)) (by decide) (by rw [fm_len]; decide) rfl rfl rfl rfl (fm E.1 21) (fm_set (k := 20) (by decide)) ?_
  refine v_aload_n cx (tk_dc d_M_init 86 rfl) rfl ?_
  refine v_iconst cx (tk_dc d_M_init 87 rfl) (2) (by decide) ?_
  refine v_newa1 (n := 194) cx (2, .inl (fun _ => 0)) 1 2 (tk_dc d_M_init 88 rfl) ac_Z rfl rfl rfl (fun _ => rfl) (by decide) (by decide) (by decide) ⟨Nat.le_of_ble_eq_true rfl, Nat.le_of_ble_eq_true rfl⟩ (by decide) ?_
  refine v_eqF (C' := tk_Ms E 21) (tk_up_id (tk_Ms_at (by decide) F_194)) ?_
  refine v_putFG (n := 195) cx hB rfl (tk_dc d_M_init 89 rfl) f_M_75 (tk_tb 680 (by decide +kernel)) (by decide) (by rw [fm_len]; decide) rfl rfl rfl rfl (fm E.1 22) (fm_set (k := 21) (by decide)) ?_
  refine v_aload_n cx (tk_dc d_M_init 90 rfl) rfl ?_
  refine v_bipush cx (tk_dc d_M_init 91 rfl) (24) (by decide) ?_
  refine v_newa1 (n := 195) cx (24, .inl (fun _ => 0)) 0 24 (tk_dc d_M_init 92 rfl) ac_I rfl rfl rfl (fun _ => rfl) (by decide) (by decide) (by decide) ⟨Nat.le_of_ble_eq_true rfl, Nat.le_of_ble_eq_true rfl⟩ (by decide) ?_
  refine v_eqF (C' := tk_Ms E 22) (tk_up_id (tk_Ms_at (by decide) F_195)) ?_
  refine v_putFG (n := 196) cx hB rfl (tk_dc d_M_init 93 rfl) f_M_78 (tk_tb 681 (by decide +kernel)) (by decide) (by rw [fm_len]; decide) rfl rfl rfl rfl (fm E.1 23) (fm_set (k := 22) (by decide)) ?_
  refine v_aload_n cx (tk_dc d_M_init 94 rfl) rfl ?_
  refine v_bipush cx (tk_dc d_M_init 95 rfl) (24) (by decide) ?_
  refine v_newa1 (n := 196) cx (24, .inl (fun _ => 0)) 0 24 (tk_dc d_M_init 96 rfl) ac_I rfl rfl rfl (fun _ => rfl) (by decide) (by decide) (by decide) ⟨Nat.le_of_ble_eq_true rfl, Nat.le_of_ble_eq_true rfl⟩ (by decide) ?_
  refine v_eqF (C' := tk_Ms E 23) (tk_up_id (tk_Ms_at (by decide) F_196)) ?_
  refine v_putFG (n := 197) cx hB rfl (tk_dc d_M_init 97 rfl) f_M_81 (tk_tb 682 (by decide +kernel)) (by decide) (by rw [fm_len]; decide) rfl rfl rfl rfl (fm E.1 24) (fm_set (k := 23) (by decide)) ?_
  refine v_aload_n cx (tk_dc d_M_init 98 rfl) rfl ?_
  refine v_bipush cx (tk_dc d_M_init 99 rfl) (24) (by decide) ?_
  refine v_newa1 (n := 197) cx (24, .inl (fun _ => 0)) 0 24 (tk_dc d_M_init 100 rfl) ac_I rfl rfl rfl (fun _ => rfl) (by decide) (by decide) (by decide) ⟨Nat.le_of_ble_eq_true rfl, Nat.le_of_ble_eq_true rfl⟩ (by decide) ?_
  refine v_eqF (C' := tk_Ms E 24) (tk_up_id (tk_Ms_at (by decide) F_197)) ?_
  refine v_putFG (n := 198) cx hB rfl (tk_dc d_M_init 101 rfl) f_M_84 (tk_tb 683 (by decide +kernel)) (by decide) (by rw [fm_len]; decide) rfl rfl rfl rfl (fm E.1 25) (fm_set (k := 24) (by decide)) ?_
  refine v_aload_n cx (tk_dc d_M_init 102 rfl) rfl ?_
  refine v_bipush cx (tk_dc d_M_init 103 rfl) (24) (by decide) ?_
  refine v_newa1 (n := 198) cx (24, .inl (fun _ => 0)) 0 24 (tk_dc d_M_init 104 rfl) ac_I rfl rfl rfl (fun _ => rfl) (by decide) (by decide) (by decide) ⟨Nat.le_of_ble_eq_true rfl, Nat.le_of_ble_eq_true rfl⟩ (by decide) ?_
  refine v_eqF (C' := tk_Ms E 25) (tk_up_id (tk_Ms_at (by decide) F_198)) ?_
  refine v_putFG (n := 199) cx hB rfl (tk_dc d_M_init 105 rfl) f_M_87 (tk_tb 684 (by decide +kernel)) (by decide) (by rw [fm_len]; decide) rfl rfl rfl rfl (fm E.1 26) (fm_set (k := 25) (by decide)) ?_
  refine v_aload_n cx (tk_dc d_M_init 106 rfl) rfl ?_
  refine v_bipush cx (tk_dc d_M_init 107 rfl) (24) (by decide) ?_
  refine v_newa1 (n := 199) cx (24, .inl (fun _ => 0)) 0 24 (tk_dc d_M_init 108 rfl) ac_I rfl rfl rfl (fun _ => rfl) (by decide) (by decide) (by decide) ⟨Nat.le_of_ble_eq_true rfl, Nat.le_of_ble_eq_true rfl⟩ (by decide) ?_
  refine v_eqF (C' := tk_Ms E 26) (tk_up_id (tk_Ms_at (by decide) F_199)) ?_
  refine v_putFG (n := 200) cx hB rfl (tk_dc d_M_init 109 rfl) f_M_90 (tk_tb 685 (by decide +kernel)) (by decide) (by rw [fm_len]; decide) rfl rfl rfl rfl (fm E.1 27) (fm_set (k := 26) (by decide)) ?_
  refine v_aload_n cx (tk_dc d_M_init 110 rfl) rfl ?_
  refine v_bipush cx (tk_dc d_M_init 111 rfl) (24) (by decide) ?_
  refine v_newa1 (n := 200) cx (24, .inl (fun _ => 0)) 0 24 (tk_dc d_M_init 112 rfl) ac_I rfl rfl rfl (fun _ => rfl) (by decide) (by decide) (by decide) ⟨Nat.le_of_ble_eq_true rfl, Nat.le_of_ble_eq_true rfl⟩ (by decide) ?_
  refine v_eqF (C' := tk_Ms E 27) (tk_up_id (tk_Ms_at (by decide) F_200)) ?_
  refine v_putFG (n := 201) cx hB rfl (tk_dc d_M_init 113 rfl) f_M_93 (tk_tb 686 (by decide +kernel)) (by decide) (by rw [fm_len]; decide) rfl rfl rfl rfl (fm E.1 28) (fm_set (k := 27) (by decide)) ?_
  refine v_aload_n cx (tk_dc d_M_init 114 rfl) rfl ?_
  refine v_bipush cx (tk_dc d_M_init 115 rfl) (24) (by decide) ?_
  refine v_newa1 (n := 201) cx (24, .inl (fun _ => 0)) 0 24 (tk_dc d_M_init 116 rfl) ac_I rfl rfl rfl (fun _ => rfl) (by decide) (by decide) (by decide) ⟨Nat.le_of_ble_eq_true rfl, Nat.le_of_ble_eq_true rfl⟩ (by decide) ?_
  refine v_eqF (C' := tk_Ms E 28) (tk_up_id (tk_Ms_at (by decide) F_201)) ?_
  refine v_putFG (n := 202) cx hB rfl (tk_dc d_M_init 117 rfl) f_M_96 (tk_tb 687 (by decide +kernel)) (by decide) (by rw [fm_len]; decide) rfl rfl rfl rfl (fm E.1 29) (fm_set (k := 28) (by decide)) ?_
  refine v_aload_n cx (tk_dc d_M_init 118 rfl) rfl ?_
  refine v_bipush cx (tk_dc d_M_init 119 rfl) (24) (by decide) ?_
  refine v_newa1 (n := 202) cx (24, .inl (fun _ => 0)) 0 24 (tk_dc d_M_init 120 rfl) ac_I rfl rfl rfl (fun _ => rfl) (by decide) (by decide) (by decide) ⟨Nat.le_of_ble_eq_true rfl, Nat.le_of_ble_eq_true rfl⟩ (by decide) ?_
  refine v_eqF (C' := tk_Ms E 29) (tk_up_id (tk_Ms_at (by decide) F_202)) ?_
  refine v_putFG (n := 203) cx hB rfl (tk_dc d_M_init 121 rfl) f_M_99 (tk_tb 688 (by decide +kernel)) (by decide) (by rw [fm_len]; decide) rfl rfl rfl rfl (fm E.1 30) (fm_set (k := 29) (by decide)) ?_
  refine v_aload_n cx (tk_dc d_M_init 122 rfl) rfl ?_
  refine v_bipush cx (tk_dc d_M_init 123 rfl) (24) (by decide) ?_
  refine v_newa1 (n := 203) cx (24, .inl (fun _ => 0)) 0 24 (tk_dc d_M_init 124 rfl) ac_I rfl rfl rfl (fun _ => rfl) (by decide) (by decide) (by decide) ⟨Nat.le_of_ble_eq_true rfl, Nat.le_of_ble_eq_true rfl⟩ (by decide) ?_
  refine v_eqF (C' := tk_Ms E 30) (tk_up_id (tk_Ms_at (by decide) F_203)) ?_
  refine v_putFG (n := 204) cx hB rfl (tk_dc d_M_init 125 rfl) f_M_102 (tk_tb 689 (by decide +kernel)) (by decide) (by rw [fm_len]; decide) rfl rfl rfl rfl (fm E.1 31) (fm_set (k := 30) (by decide)) ?_
  refine v_aload_n cx (tk_dc d_M_init 126 rfl) rfl ?_
  refine v_bipush cx (tk_dc d_M_init 127 rfl) (8) (by decide) ?_
  refine v_newa1 (n := 204) cx (8, .inl (fun _ => 0)) 0 8 (tk_dc d_M_init 128 rfl) ac_I rfl rfl rfl (fun _ => rfl) (by decide) (by decide) (by decide) ⟨Nat.le_of_ble_eq_true rfl, Nat.le_of_ble_eq_true rfl⟩ (by decide) ?_
  refine v_eqF (C' := tk_Ms E 31) (tk_up_id (tk_Ms_at (by decide) F_204)) ?_
  refine v_putFG (n := 205) cx hB rfl (tk_dc d_M_init 129 rfl) f_M_105 (tk_tb 690 (by decide +kernel)) (by decide) (by rw [fm_len]; decide) rfl rfl rfl rfl (fm E.1 32) (fm_set (k := 31) (by decide)) ?_
  refine v_aload_n cx (tk_dc d_M_init 130 rfl) rfl ?_
  refine v_bipush cx (tk_dc d_M_init 131 rfl) (8) (by decide) ?_
  refine v_newa1 (n := 205) cx (8, .inl (fun _ => 0)) 0 8 (tk_dc d_M_init 132 rfl) ac_I rfl rfl rfl (fun _ => rfl) (by decide) (by decide) (by decide) ⟨Nat.le_of_ble_eq_true rfl, Nat.le_of_ble_eq_true rfl⟩ (by decide) ?_
  refine v_eqF (C' := tk_Ms E 32) (tk_up_id (tk_Ms_at (by decide) F_205)) ?_
  refine v_putFG (n := 206) cx hB rfl (tk_dc d_M_init 133 rfl) f_M_108 (tk_tb 691 (by decide +kernel)) (by decide) (by rw [fm_len]; decide) rfl rfl rfl rfl (fm E.1 33) (fm_set (k := 32) (by decide)) ?_
  refine v_aload_n cx (tk_dc d_M_init 134 rfl) rfl ?_
  refine v_sipush cx (tk_dc d_M_init 135 rfl) (320) (by decide) ?_
  refine v_newa1 (n := 206) cx (320, .inl (fun _ => 0)) 0 320 (tk_dc d_M_init 136 rfl) ac_I rfl rfl rfl (fun _ => rfl) (by decide) (by decide) (by decide) ⟨Nat.le_of_ble_eq_true rfl, Nat.le_of_ble_eq_true rfl⟩ (by decide) ?_
  refine v_eqF (C' := tk_Ms E 33) (tk_up_id (tk_Ms_at (by decide) F_206)) ?_
  refine v_putFG (n := 207) cx hB rfl (tk_dc d_M_init 137 rfl) f_M_111 (tk_tb 692 (by decide +kernel)) (by decide) (by rw [fm_len]; decide) rfl rfl rfl rfl (fm E.1 34) (fm_set (k := 33) (by decide)) ?_
  refine v_aload_n cx (tk_dc d_M_init 138 rfl) rfl ?_
  refine v_sipush cx (tk_dc d_M_init 139 rfl) (320) (by decide) ?_
  refine v_newa1 (n := 207) cx (320, .inl (fun _ => 0)) 0 320 (tk_dc d_M_init 140 rfl) ac_I rfl rfl rfl (fun _ => rfl) (by decide) (by decide) (by decide) ⟨Nat.le_of_ble_eq_true rfl, Nat.le_of_ble_eq_true rfl⟩ (by decide) ?_
  refine v_eqF (C' := tk_Ms E 34) (tk_up_id (tk_Ms_at (by decide) F_207)) ?_
  refine v_putFG (n := 208) cx hB rfl (tk_dc d_M_init 141 rfl) f_M_114 (tk_tb 693 (by decide +kernel)) (by decide) (by rw [fm_len]; decide) rfl rfl rfl rfl (fm E.1 35) (fm_set (k := 34) (by decide)) ?_
  refine v_aload_n cx (tk_dc d_M_init 142 rfl) rfl ?_
  refine v_sipush cx (tk_dc d_M_init 143 rfl) (480) (by decide) ?_
  refine v_newa1 (n := 208) cx (480, .inl (fun _ => 0)) 0 480 (tk_dc d_M_init 144 rfl) ac_I rfl rfl rfl (fun _ => rfl) (by decide) (by decide) (by decide) ⟨Nat.le_of_ble_eq_true rfl, Nat.le_of_ble_eq_true rfl⟩ (by decide) ?_
  refine v_eqF (C' := tk_Ms E 35) (tk_up_id (tk_Ms_at (by decide) F_208)) ?_
  refine v_putFG (n := 209) cx hB rfl (tk_dc d_M_init 145 rfl) f_M_117 (tk_tb 694 (by decide +kernel)) (by decide) (by rw [fm_len]; decide) rfl rfl rfl rfl (fm E.1 36) (fm_set (k := 35) (by decide)) ?_
  refine v_eqF (C' := tk_ct E MA) tk_Ms_all ?_
  refine v_iconst cx (tk_dc d_M_init 146 rfl) (0) (by decide) ?_
  refine v_istore_n (lo' := [_, _]) cx (tk_dc d_M_init 147 rfl) (by decide) rfl ?_
  exact l1 8 0 rfl
