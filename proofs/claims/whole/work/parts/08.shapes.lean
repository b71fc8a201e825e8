section SHP
theorem sh_st {o : Nat} (h : o ∈ stA) : shp o = (0, 3, [(0, 0), (0, 0), (0, 0), (2, o + 1), (2, o + 2), (2, o + 3), (2, o + 4), (2, o + 5), (2, o + 6)]) := by
  revert o; decide +kernel
theorem sa_st_heights {o : Nat} (h : o ∈ stA) : shp (o + 1) = (1, 6, []) := by
  revert o; decide +kernel
theorem sa_st_heats {o : Nat} (h : o ∈ stA) : shp (o + 2) = (1, 6, []) := by
  revert o; decide +kernel
theorem sa_st_crowns {o : Nat} (h : o ∈ stA) : shp (o + 3) = (1, 6, []) := by
  revert o; decide +kernel
theorem sa_st_heard {o : Nat} (h : o ∈ stA) : shp (o + 4) = (1, 6, []) := by
  revert o; decide +kernel
theorem sa_st_heardAhead {o : Nat} (h : o ∈ stA) : shp (o + 5) = (1, 6, []) := by
  revert o; decide +kernel
theorem sa_st_creaks {o : Nat} (h : o ∈ stA) : shp (o + 6) = (1, 6, []) := by
  revert o; decide +kernel
theorem sh_yd {o : Nat} (h : o ∈ ydA) : shp o = (0, 6, [(2, o + 1), (2, o + 2), (2, o + 3), (2, o + 4), (2, o + 5), (0, 0), (2, o + 6), (2, o + 7), (2, o + 8), (0, 0), (2, o + 9), (0, 0), (0, 0), (2, o + 10)]) := by
  revert o; decide +kernel
theorem sa_yd_shedNames {o : Nat} (h : o ∈ ydA) : shp (o + 1) = (2, 6, []) := by
  revert o; decide +kernel
theorem sa_yd_kinds {o : Nat} (h : o ∈ ydA) : shp (o + 2) = (1, 6, []) := by
  revert o; decide +kernel
theorem sa_yd_heats {o : Nat} (h : o ∈ ydA) : shp (o + 3) = (1, 6, []) := by
  revert o; decide +kernel
theorem sa_yd_crowns {o : Nat} (h : o ∈ ydA) : shp (o + 4) = (1, 6, []) := by
  revert o; decide +kernel
theorem sa_yd_near {o : Nat} (h : o ∈ ydA) : shp (o + 5) = (1, 6, []) := by
  revert o; decide +kernel
theorem sa_yd_stageNames {o : Nat} (h : o ∈ ydA) : shp (o + 6) = (2, 5, []) := by
  revert o; decide +kernel
theorem sa_yd_lows {o : Nat} (h : o ∈ ydA) : shp (o + 7) = (1, 5, []) := by
  revert o; decide +kernel
theorem sa_yd_highs {o : Nat} (h : o ∈ ydA) : shp (o + 8) = (1, 5, []) := by
  revert o; decide +kernel
theorem sa_yd_frosts {o : Nat} (h : o ∈ ydA) : shp (o + 9) = (1, 12, []) := by
  revert o; decide +kernel
theorem sh_wk {o : Nat} (h : o ∈ wkA) : shp o = (0, 5, [(2, o + 1), (2, o + 2), (2, o + 3), (0, 0)]) := by
  revert o; decide +kernel
theorem sa_wk_deeds {o : Nat} (h : o ∈ wkA) : shp (o + 1) = (1, 40, []) := by
  revert o; decide +kernel
theorem sa_wk_places {o : Nat} (h : o ∈ wkA) : shp (o + 2) = (1, 40, []) := by
  revert o; decide +kernel
theorem sa_wk_numbers {o : Nat} (h : o ∈ wkA) : shp (o + 3) = (1, 40, []) := by
  revert o; decide +kernel
theorem sh_sn {o : Nat} (h : o ∈ snA) : shp o = (0, 2, [(2, o + 1), (2, o + 2), (2, o + 3), (0, 0)]) := by
  revert o; decide +kernel
theorem sa_sn_nights {o : Nat} (h : o ∈ snA) : shp (o + 1) = (1, 8, []) := by
  revert o; decide +kernel
theorem sa_sn_much {o : Nat} (h : o ∈ snA) : shp (o + 2) = (1, 8, []) := by
  revert o; decide +kernel
theorem sa_sn_more {o : Nat} (h : o ∈ snA) : shp (o + 3) = (1, 8, []) := by
  revert o; decide +kernel
theorem sh_lw {o : Nat} (h : o ∈ lwA) : shp o = (0, 0, [(2, o + 1), (0, 0), (2, o + 2), (2, o + 3)]) := by
  revert o; decide +kernel
theorem sa_lw_code {o : Nat} (h : o ∈ lwA) : shp (o + 1) = (1, 1000, []) := by
  revert o; decide +kernel
theorem sa_lw_facts {o : Nat} (h : o ∈ lwA) : shp (o + 2) = (1, 4, []) := by
  revert o; decide +kernel
theorem sa_lw_stack {o : Nat} (h : o ∈ lwA) : shp (o + 3) = (1, 25, []) := by
  revert o; decide +kernel
theorem sh_mk {o : Nat} (h : o ∈ mkA) : shp o = (0, 1, [(0, 0), (2, o + 1), (2, o + 8), (2, o + 12)]) := by
  revert o; decide +kernel
theorem sh_tk : shp 6 = (0, 4, [(2, 7), (0, 0), (0, 0), (0, 0), (0, 0), (0, 0), (0, 0), (1, 0), (3, 0), (0, 0)]) := by decide +kernel
theorem sa_tk_signs : shp 7 = (1, 1000, []) := by decide +kernel
theorem sh_x : shp 0 = (0, 7, [(2, 6), (3, 0), (3, 0), (3, 0), (3, 0), (2, 44), (2, 51), (2, 58), (2, 1), (2, 2), (0, 0), (0, 0), (2, 3), (2, 4), (2, 5), (0, 0), (1, 0)]) := by decide +kernel
theorem sa_x_marks : shp 1 = (4, 4, [(62, 16)]) := by decide +kernel
theorem sa_x_past : shp 2 = (5, 16, [(126, 7)]) := by decide +kernel
theorem sa_x_creaksAhead : shp 3 = (1, 120, []) := by decide +kernel
theorem sa_x_given : shp 4 = (1, 5, []) := by decide +kernel
theorem sa_x_bestGiven : shp 5 = (1, 5, []) := by decide +kernel
theorem sh_m : shp 238 = (0, 8, [(0, 0), (0, 0), (2, 239), (0, 0), (0, 0), (0, 0), (0, 0), (1, 0), (0, 0), (0, 0), (2, 240), (2, 241), (2, 242), (2, 243), (2, 244), (2, 245), (2, 246), (2, 247), (2, 248), (2, 249), (2, 250), (2, 251), (2, 252), (0, 0), (0, 0), (2, 253), (2, 254), (2, 255), (2, 256), (2, 257), (2, 258), (2, 259), (2, 260), (2, 261), (2, 262), (2, 263), (2, 264), (0, 0), (1, 0), (2, 265), (2, 266), (2, 267), (2, 268), (2, 269), (2, 270), (2, 271), (2, 272), (2, 273), (2, 274), (2, 275), (2, 276), (2, 277), (2, 278), (2, 279), (0, 0), (2, 280), (2, 281), (0, 0), (2, 282), (2, 283), (0, 0), (2, 284), (1, 0)]) := by decide +kernel
theorem sa_m_tape : shp 239 = (1, 1000, []) := by decide +kernel
theorem sa_m_yard : shp 240 = (1, 8, []) := by decide +kernel
theorem sa_m_shedName : shp 241 = (2, 12, []) := by decide +kernel
theorem sa_m_stageName : shp 242 = (2, 10, []) := by decide +kernel
theorem sa_m_kind : shp 243 = (1, 12, []) := by decide +kernel
theorem sa_m_heatTold : shp 244 = (1, 12, []) := by decide +kernel
theorem sa_m_crownsTold : shp 245 = (1, 12, []) := by decide +kernel
theorem sa_m_near : shp 246 = (1, 12, []) := by decide +kernel
theorem sa_m_wantsFrom : shp 247 = (1, 10, []) := by decide +kernel
theorem sa_m_wantsTo : shp 248 = (1, 10, []) := by decide +kernel
theorem sa_m_frost : shp 249 = (1, 24, []) := by decide +kernel
theorem sa_m_lineFrom : shp 250 = (1, 2, []) := by decide +kernel
theorem sa_m_lineTo : shp 251 = (1, 2, []) := by decide +kernel
theorem sa_m_codes : shp 252 = (1, 2000, []) := by decide +kernel
theorem sa_m_opened : shp 253 = (1, 7, []) := by decide +kernel
theorem sa_m_compared : shp 254 = (3, 7, []) := by decide +kernel
theorem sa_m_kept : shp 255 = (1, 7, []) := by decide +kernel
theorem sa_m_keptBy : shp 256 = (1, 7, []) := by decide +kernel
theorem sa_m_ahead : shp 257 = (1, 7, []) := by decide +kernel
theorem sa_m_against : shp 258 = (1, 7, []) := by decide +kernel
theorem sa_m_sum : shp 259 = (1, 7, []) := by decide +kernel
theorem sa_m_sumBy : shp 260 = (1, 7, []) := by decide +kernel
theorem sa_m_term : shp 261 = (1, 7, []) := by decide +kernel
theorem sa_m_termBy : shp 262 = (1, 7, []) := by decide +kernel
theorem sa_m_byNot : shp 263 = (1, 7, []) := by decide +kernel
theorem sa_m_valueOf : shp 264 = (1, 20, []) := by decide +kernel
theorem sa_m_lines : shp 265 = (1, 6, []) := by decide +kernel
theorem sa_m_lineWhat : shp 266 = (1, 240, []) := by decide +kernel
theorem sa_m_lineA : shp 267 = (1, 240, []) := by decide +kernel
theorem sa_m_lineB : shp 268 = (1, 240, []) := by decide +kernel
theorem sa_m_seens : shp 269 = (1, 5, []) := by decide +kernel
theorem sa_m_seenIn : shp 270 = (1, 40, []) := by decide +kernel
theorem sa_m_seenMuch : shp 271 = (1, 40, []) := by decide +kernel
theorem sa_m_seenMore : shp 272 = (3, 40, []) := by decide +kernel
theorem sa_m_s : shp 273 = (1, 26, []) := by decide +kernel
theorem sa_m_aside : shp 274 = (1, 26, []) := by decide +kernel
theorem sa_m_before : shp 275 = (1, 26, []) := by decide +kernel
theorem sa_m_tried : shp 276 = (1, 26, []) := by decide +kernel
theorem sa_m_marked : shp 277 = (1, 104, []) := by decide +kernel
theorem sa_m_undone : shp 278 = (1, 416, []) := by decide +kernel
theorem sa_m_isLaid : shp 279 = (3, 4, []) := by decide +kernel
theorem sa_m_grew : shp 280 = (1, 6, []) := by decide +kernel
theorem sa_m_hears : shp 281 = (1, 6, []) := by decide +kernel
theorem sa_m_row : shp 282 = (1, 5, []) := by decide +kernel
theorem sa_m_bestRow : shp 283 = (1, 5, []) := by decide +kernel
theorem sa_m_creaks : shp 284 = (1, 120, []) := by decide +kernel
theorem yd_lw {o : Nat} (h : o ∈ ydA) : o + 10 ∈ lwA := by
  revert o; decide
theorem mk_st {o : Nat} (h : o ∈ mkA) : o + 1 ∈ stA := by
  revert o; decide
theorem mk_wk {o : Nat} (h : o ∈ mkA) : o + 8 ∈ wkA := by
  revert o; decide
theorem mk_sn {o : Nat} (h : o ∈ mkA) : o + 12 ∈ snA := by
  revert o; decide
end SHP
