/-! THE DUTIES: every operation keeps the relation and answers alike -/
theorem d_away : pd_away ReL := by
  intro al IC LC IM LM e0 h
  obtain ⟨n, c, W, q, g, a, K, kw, l, b, s, w, e, x, hT, hD, ⟨i1, i2, i3⟩, ⟨x1, x2, x3⟩, so, hR, hA⟩ := id h
  obtain ⟨h1, hl, h3, h4, h5, h6, h7, h8, h9, h10⟩ := id hD
  obtain ⟨r, w1, w2⟩ := op_away h1 h3 h6 LC LM e0
  exact ⟨r, IC, LC, IM, LM, w1, w2, h⟩
theorem d_ahead : pd_ahead ReL := by
  intro al IC LC IM LM e0 h
  obtain ⟨n, c, W, q, g, a, K, kw, l, b, s, w, e, x, hT, hD, ⟨i1, i2, i3⟩, ⟨x1, x2, x3⟩, so, hR, hA⟩ := id h
  obtain ⟨h1, hl, h3, h4, h5, h6, h7, h8, h9, h10⟩ := id hD
  obtain ⟨r, w1, w2⟩ := op_ahead h1 h3 h6 LC LM e0
  exact ⟨r, IC, LC, IM, LM, w1, w2, h⟩
theorem d_next : pd_next ReL := by
  intro al IC LC IM LM e0 h
  obtain ⟨n, c, W, q, g, a, K, kw, l, b, s, w, e, x, hT, hD, ⟨i1, i2, i3⟩, ⟨x1, x2, x3⟩, so, hR, hA⟩ := id h
  obtain ⟨h1, hl, h3, h4, h5, h6, h7, h8, h9, h10⟩ := id hD
  obtain ⟨r, w1, w2⟩ := op_next h1 h3 h6 LC LM e0
  exact ⟨r, IC, LC, IM, LM, w1, w2, h⟩
theorem d_even : pd_even ReL := by
  intro al IC LC IM LM  h
  obtain ⟨n, c, W, q, g, a, K, kw, l, b, s, w, e, x, hT, hD, ⟨i1, i2, i3⟩, ⟨x1, x2, x3⟩, so, hR, hA⟩ := id h
  obtain ⟨h1, hl, h3, h4, h5, h6, h7, h8, h9, h10⟩ := id hD
  obtain ⟨r, w1, w2⟩ := op_even h1 h3 h6 LC LM 
  exact ⟨r, IC, LC, IM, LM, w1, w2, h⟩
theorem d_meeting : pd_meeting ReL := by
  intro al IC LC IM LM e0 e1 h
  obtain ⟨n, c, W, q, g, a, K, kw, l, b, s, w, e, x, hT, hD, ⟨i1, i2, i3⟩, ⟨x1, x2, x3⟩, so, hR, hA⟩ := id h
  obtain ⟨h1, hl, h3, h4, h5, h6, h7, h8, h9, h10⟩ := id hD
  obtain ⟨r, w1, w2⟩ := op_meeting h1 h3 h6 LC LM e0 e1
  exact ⟨r, IC, LC, IM, LM, w1, w2, h⟩
theorem d_pony : pd_pony ReL := by
  intro al IC LC IM LM e0 h
  obtain ⟨n, c, W, q, g, a, K, kw, l, b, s, w, e, x, hT, hD, ⟨i1, i2, i3⟩, ⟨x1, x2, x3⟩, so, hR, hA⟩ := id h
  obtain ⟨h1, hl, h3, h4, h5, h6, h7, h8, h9, h10⟩ := id hD
  obtain ⟨r, w1, w2⟩ := op_pony h1 h3 h6 LC LM e0
  exact ⟨r, IC, LC, IM, LM, w1, w2, h⟩
theorem d_soonest : pd_soonest ReL := by
  intro al IC LC IM LM e0 h
  obtain ⟨n, c, W, q, g, a, K, kw, l, b, s, w, e, x, hT, hD, ⟨i1, i2, i3⟩, ⟨x1, x2, x3⟩, so, hR, hA⟩ := id h
  obtain ⟨h1, hl, h3, h4, h5, h6, h7, h8, h9, h10⟩ := id hD
  obtain ⟨r, w1, w2⟩ := op_soonest h1 h3 h6 LC LM e0
  exact ⟨r, IC, LC, IM, LM, w1, w2, h⟩
theorem d_last : pd_last ReL := by
  intro al IC LC IM LM  h
  obtain ⟨n, c, W, q, g, a, K, kw, l, b, s, w, e, x, hT, hD, ⟨i1, i2, i3⟩, ⟨x1, x2, x3⟩, so, hR, hA⟩ := id h
  obtain ⟨h1, hl, h3, h4, h5, h6, h7, h8, h9, h10⟩ := id hD
  obtain ⟨r, w1, w2⟩ := op_last h1 h3 h6 LC LM 
  exact ⟨r, IC, LC, IM, LM, w1, w2, h⟩
theorem d_orchard : pd_orchard ReL := by
  intro al IC LC IM LM e0 e1 h
  obtain ⟨n, c, W, q, g, a, K, kw, l, b, s, w, e, x, hT, hD, ⟨i1, i2, i3⟩, ⟨x1, x2, x3⟩, so, hR, hA⟩ := id h
  obtain ⟨h1, hl, h3, h4, h5, h6, h7, h8, h9, h10⟩ := id hD
  obtain ⟨r, w1, w2⟩ := op_orchard h1 h3 h6 LC LM e0 e1
  exact ⟨r, IC, LC, IM, LM, w1, w2, h⟩
theorem d_forced : pd_forced ReL := by
  intro al IC LC IM LM e0 h
  obtain ⟨n, c, W, q, g, a, K, kw, l, b, s, w, e, x, hT, hD, ⟨i1, i2, i3⟩, ⟨x1, x2, x3⟩, so, hR, hA⟩ := id h
  obtain ⟨h1, hl, h3, h4, h5, h6, h7, h8, h9, h10⟩ := id hD
  obtain ⟨r, w1, w2⟩ := op_forced h1 h3 h6 LC LM e0
  exact ⟨r, IC, LC, IM, LM, w1, w2, h⟩
theorem d_gets : pd_gets ReL := by
  intro al IC LC IM LM e0 e1 h
  obtain ⟨n, c, W, q, g, a, K, kw, l, b, s, w, e, x, hT, hD, ⟨i1, i2, i3⟩, ⟨x1, x2, x3⟩, so, hR, hA⟩ := id h
  obtain ⟨h1, hl, h3, h4, h5, h6, h7, h8, h9, h10⟩ := id hD
  obtain ⟨r, w1, w2⟩ := op_gets h1 h3 h6 LC LM e0 e1
  exact ⟨r, IC, LC, IM, LM, w1, w2, h⟩
theorem d_resting : pd_resting ReL := by
  intro al IC LC IM LM e0 h
  obtain ⟨n, c, W, q, g, a, K, kw, l, b, s, w, e, x, hT, hD, ⟨i1, i2, i3⟩, ⟨x1, x2, x3⟩, so, hR, hA⟩ := id h
  obtain ⟨h1, hl, h3, h4, h5, h6, h7, h8, h9, h10⟩ := id hD
  obtain ⟨r, w1, w2⟩ := op_resting h1 h3 h6 LC LM e0
  exact ⟨r, IC, LC, IM, LM, w1, w2, h⟩
theorem d_log : pd_log ReL := by
  intro al IC LC IM LM e0 e1 h
  obtain ⟨n, c, W, q, g, a, K, kw, l, b, s, w, e, x, hT, hD, ⟨i1, i2, i3⟩, ⟨x1, x2, x3⟩, so, hR, hA⟩ := id h
  obtain ⟨h1, hl, h3, h4, h5, h6, h7, h8, h9, h10⟩ := id hD
  obtain ⟨r, w1, w2⟩ := op_log hD LM e0 e1
  exact ⟨r, IC, LC, IM, LM, w1, w2, h⟩
theorem d_won : pd_won ReL := by
  intro al IC LC IM LM  h
  obtain ⟨n, c, W, q, g, a, K, kw, l, b, s, w, e, x, hT, hD, ⟨i1, i2, i3⟩, ⟨x1, x2, x3⟩, so, hR, hA⟩ := id h
  obtain ⟨h1, hl, h3, h4, h5, h6, h7, h8, h9, h10⟩ := id hD
  obtain ⟨r, I', J', w1, w2, w3, w4⟩ := op_won h1 hl h3 h4 h5 h6 h7 LC LM 
  exact ⟨r, I', LC, J', LM, w1, w2, R_scr h w3 w4⟩
theorem d_behind : pd_behind ReL := by
  intro al IC LC IM LM e0 h
  obtain ⟨n, c, W, q, g, a, K, kw, l, b, s, w, e, x, hT, hD, ⟨i1, i2, i3⟩, ⟨x1, x2, x3⟩, so, hR, hA⟩ := id h
  obtain ⟨h1, hl, h3, h4, h5, h6, h7, h8, h9, h10⟩ := id hD
  obtain ⟨r, I', J', w1, w2, w3, w4⟩ := op_behind h1 hl h3 h4 h5 h6 h7 LC LM e0
  exact ⟨r, I', LC, J', LM, w1, w2, R_scr h w3 w4⟩
theorem d_reads : pd_reads ReL := by
  intro al IC LC IM LM e0 h
  obtain ⟨n, c, W, q, g, a, K, kw, l, b, s, w, e, x, hT, hD, ⟨i1, i2, i3⟩, ⟨x1, x2, x3⟩, so, hR, hA⟩ := id h
  obtain ⟨h1, hl, h3, h4, h5, h6, h7, h8, h9, h10⟩ := id hD
  obtain ⟨r, I', J', w1, w2, w3, w4⟩ := op_reads h1 hl h3 h4 h5 h6 h7 LC LM e0
  exact ⟨r, I', LC, J', LM, w1, w2, R_scr h w3 w4⟩
theorem d_loophole : pd_loophole ReL := by
  intro al IC LC IM LM e0 h
  obtain ⟨n, c, W, q, g, a, K, kw, l, b, s, w, e, x, hT, hD, ⟨i1, i2, i3⟩, ⟨x1, x2, x3⟩, so, hR, hA⟩ := id h
  obtain ⟨h1, hl, h3, h4, h5, h6, h7, h8, h9, h10⟩ := id hD
  obtain ⟨r, I', J', w1, w2, w3, w4⟩ := op_loophole h1 hl h3 h4 h5 h6 h7 LC LM e0
  exact ⟨r, I', LC, J', LM, w1, w2, R_scr h w3 w4⟩
theorem d_weary : pd_weary ReL := by
  intro al IC LC IM LM  h
  obtain ⟨n, c, W, q, g, a, K, kw, l, b, s, w, e, x, hT, hD, ⟨i1, i2, i3⟩, ⟨x1, x2, x3⟩, so, hR, hA⟩ := id h
  obtain ⟨h1, hl, h3, h4, h5, h6, h7, h8, h9, h10⟩ := id hD
  obtain ⟨r, I', J', w1, w2, w3, w4⟩ := op_weary h1 hl h3 h4 h5 h6 h7 LC LM 
  exact ⟨r, I', LC, J', LM, w1, w2, R_scr h w3 w4⟩
theorem d_closed : pd_closed ReL := by
  intro al IC LC IM LM  h
  obtain ⟨n, c, W, q, g, a, K, kw, l, b, s, w, e, x, hT, hD, ⟨i1, i2, i3⟩, ⟨x1, x2, x3⟩, so, hR, hA⟩ := id h
  obtain ⟨h1, hl, h3, h4, h5, h6, h7, h8, h9, h10⟩ := id hD
  obtain ⟨r, I', J', w1, w2, w3, w4⟩ := op_closed h1 hl h3 h4 h5 h6 h7 LC LM 
  exact ⟨r, I', LC, J', LM, w1, w2, R_scr h w3 w4⟩
theorem d_escorts : pd_escorts ReL := by
  intro al IC LC IM LM e0 e1 h
  obtain ⟨n, c, W, q, g, a, K, kw, l, b, s, w, e, x, hT, hD, ⟨i1, i2, i3⟩, ⟨x1, x2, x3⟩, so, hR, hA⟩ := id h
  obtain ⟨h1, hl, h3, h4, h5, h6, h7, h8, h9, h10⟩ := id hD
  obtain ⟨r, I', J', w1, w2, w3, w4⟩ := op_escorts h1 hl h3 h5 h6 h7 LC LM e0 e1
  exact ⟨r, I', LC, J', LM, w1, w2, R_scr h w3 w4⟩
theorem d_fit : pd_fit ReL := by
  intro al IC LC IM LM e0 e1 h
  obtain ⟨n, c, W, q, g, a, K, kw, l, b, s, w, e, x, hT, hD, ⟨i1, i2, i3⟩, ⟨x1, x2, x3⟩, so, hR, hA⟩ := id h
  obtain ⟨h1, hl, h3, h4, h5, h6, h7, h8, h9, h10⟩ := id hD
  obtain ⟨r, I', J', w1, w2, w3, w4⟩ := op_fit x1 x2 x3 LC LM e0 e1
  exact ⟨r, I', LC, J', LM, w1, w2, R_scr h w3 w4⟩
theorem d_sure : pd_sure ReL := by
  intro al IC LC IM LM e0 h
  obtain ⟨n, c, W, q, g, a, K, kw, l, b, s, w, e, x, hT, hD, ⟨i1, i2, i3⟩, ⟨x1, x2, x3⟩, so, hR, hA⟩ := id h
  obtain ⟨h1, hl, h3, h4, h5, h6, h7, h8, h9, h10⟩ := id hD
  obtain ⟨r, I', J', w1, w2, w3, w4⟩ := op_sure x1 x2 x3 LC LM e0
  exact ⟨r, I', LC, J', LM, w1, w2, R_scr h w3 w4⟩
theorem d_ask : pd_ask ReL := by
  intro al IC LC IM LM e0 e1 h
  obtain ⟨n, c, W, q, g, a, K, kw, l, b, s, w, e, x, hT, hD, ⟨i1, i2, i3⟩, ⟨x1, x2, x3⟩, so, hR, hA⟩ := id h
  obtain ⟨h1, hl, h3, h4, h5, h6, h7, h8, h9, h10⟩ := id hD
  obtain ⟨r, I', J', w1, w2, w3, w4⟩ := op_ask x1 x2 x3 LC LM e0 e1
  exact ⟨r, I', LC, J', LM, w1, w2, R_scr h w3 w4⟩
theorem d_count : pd_count ReL := by
  intro al IC LC IM LM e0 h
  obtain ⟨n, c, W, q, g, a, K, kw, l, b, s, w, e, x, hT, hD, ⟨i1, i2, i3⟩, ⟨x1, x2, x3⟩, so, hR, hA⟩ := id h
  obtain ⟨h1, hl, h3, h4, h5, h6, h7, h8, h9, h10⟩ := id hD
  obtain ⟨r, I', J', w1, w2, w3, w4⟩ := op_count hD x2 x3 (hT.2.1.trans hT.2.2.1.symm) LM e0
  exact ⟨r, I', LC, J', LM, w1, w2, R_scr h w3 w4⟩
theorem d_fault : pd_fault ReL := by
  intro al IC LC IM LM e0 h
  obtain ⟨n, c, W, q, g, a, K, kw, l, b, s, w, e, x, hT, hD, ⟨i1, i2, i3⟩, ⟨x1, x2, x3⟩, so, hR, hA⟩ := id h
  obtain ⟨h1, hl, h3, h4, h5, h6, h7, h8, h9, h10⟩ := id hD
  obtain ⟨t, t1, t2, t3⟩ := TP_t hT
  obtain ⟨r, I', J', w1, w2, w3, w4⟩ := op_fault t1 am_N 1900 am_N2 (by omega) LC LM t2 t3 e0
  exact ⟨r, I', LC, J', LM, w1, w2, R_scr h w3 w4⟩
theorem d_odds : pd_odds ReL := by
  intro al IC LC IM LM e0 e1 h
  obtain ⟨n, c, W, q, g, a, K, kw, l, b, s, w, e, x, hT, hD, ⟨i1, i2, i3⟩, ⟨x1, x2, x3⟩, so, hR, hA⟩ := id h
  obtain ⟨h1, hl, h3, h4, h5, h6, h7, h8, h9, h10⟩ := id hD
  obtain ⟨r, L', M', w1, w2, w3, w4⟩ := op_odds h1 h3 h6 LC LM e0 e1
  exact ⟨r, IC, L', IM, M', w1, w2, R_al h w3⟩
theorem d_hurry : pd_hurry ReL := by
  intro al IC LC IM LM e0 e1 h
  obtain ⟨n, c, W, q, g, a, K, kw, l, b, s, w, e, x, hT, hD, ⟨i1, i2, i3⟩, ⟨x1, x2, x3⟩, so, hR, hA⟩ := id h
  obtain ⟨h1, hl, h3, h4, h5, h6, h7, h8, h9, h10⟩ := id hD
  obtain ⟨r, L', M', w1, w2, w3, w4⟩ := op_hurry h1 h3 h6 LC LM e0 e1
  exact ⟨r, IC, L', IM, M', w1, w2, R_al h w3⟩
theorem d_go : pd_go ReL := by
  intro al IC LC IM LM e0 h
  obtain ⟨n, c, W, q, g, a, K, kw, l, b, s, w, e, x, hT, hD, ⟨i1, i2, i3⟩, ⟨x1, x2, x3⟩, so, hR, hA⟩ := id h
  obtain ⟨h1, hl, h3, h4, h5, h6, h7, h8, h9, h10⟩ := id hD
  exact R_act hT i1 i2 i3 x1 x2 x3 so hR hA (op_go hD LM e0)
theorem d_stay : pd_stay ReL := by
  intro al IC LC IM LM e0 h
  obtain ⟨n, c, W, q, g, a, K, kw, l, b, s, w, e, x, hT, hD, ⟨i1, i2, i3⟩, ⟨x1, x2, x3⟩, so, hR, hA⟩ := id h
  obtain ⟨h1, hl, h3, h4, h5, h6, h7, h8, h9, h10⟩ := id hD
  exact R_act hT i1 i2 i3 x1 x2 x3 so hR hA (op_stay hD LM e0)
theorem d_press : pd_press ReL := by
  intro al IC LC IM LM e0 e1 h
  obtain ⟨n, c, W, q, g, a, K, kw, l, b, s, w, e, x, hT, hD, ⟨i1, i2, i3⟩, ⟨x1, x2, x3⟩, so, hR, hA⟩ := id h
  obtain ⟨h1, hl, h3, h4, h5, h6, h7, h8, h9, h10⟩ := id hD
  exact R_act hT i1 i2 i3 x1 x2 x3 so hR hA (op_press hD LM e0 e1)
theorem d_evening : pd_evening ReL := by
  intro al IC LC IM LM  h
  obtain ⟨n, c, W, q, g, a, K, kw, l, b, s, w, e, x, hT, hD, ⟨i1, i2, i3⟩, ⟨x1, x2, x3⟩, so, hR, hA⟩ := id h
  obtain ⟨h1, hl, h3, h4, h5, h6, h7, h8, h9, h10⟩ := id hD
  exact R_act hT i1 i2 i3 x1 x2 x3 so hR hA (op_evening hD LM )
theorem d_march : pd_march ReL := by
  intro al IC LC IM LM e0 e1 h
  obtain ⟨n, c, W, q, g, a, K, kw, l, b, s, w, e, x, hT, hD, ⟨i1, i2, i3⟩, ⟨x1, x2, x3⟩, so, hR, hA⟩ := id h
  obtain ⟨h1, hl, h3, h4, h5, h6, h7, h8, h9, h10⟩ := id hD
  exact R_act hT i1 i2 i3 x1 x2 x3 so hR hA (op_march hD LM e0 e1)
theorem d_undo : pd_undo ReL := by
  intro al IC LC IM LM  h
  obtain ⟨n, c, W, q, g, a, K, kw, l, b, s, w, e, x, hT, hD, ⟨i1, i2, i3⟩, ⟨x1, x2, x3⟩, so, hR, hA⟩ := id h
  obtain ⟨h1, hl, h3, h4, h5, h6, h7, h8, h9, h10⟩ := id hD
  exact R_act hT i1 i2 i3 x1 x2 x3 so hR hA (op_undo hD LM )
theorem d_back : pd_back ReL := by
  intro al IC LC IM LM  h
  obtain ⟨n, c, W, q, g, a, K, kw, l, b, s, w, e, x, hT, hD, ⟨i1, i2, i3⟩, ⟨x1, x2, x3⟩, so, hR, hA⟩ := id h
  obtain ⟨h1, hl, h3, h4, h5, h6, h7, h8, h9, h10⟩ := id hD
  exact R_act hT i1 i2 i3 x1 x2 x3 so hR hA (op_back hD i1 i2 i3 LM)
theorem d_letter : pd_letter ReL := by
  intro al IC LC IM LM e0 e1 h
  obtain ⟨n, c, W, q, g, a, K, kw, l, b, s, w, e, x, hT, hD, ⟨i1, i2, i3⟩, ⟨x1, x2, x3⟩, so, hR, hA⟩ := id h
  obtain ⟨h1, hl, h3, h4, h5, h6, h7, h8, h9, h10⟩ := id hD
  obtain ⟨r, I', J', x', w1, w2, y1, y2, y3, w3, w4⟩ := op_letter x1 x2 x3 LC LM e0 e1
  exact ⟨r, I', LC, J', LM, w1, w2, R_let h y1 y2 y3 w3 w4⟩
theorem d_law : pd_law ReL := by
  intro al IC LC IM LM e0 h
  obtain ⟨n, c, W, q, g, a, K, kw, l, b, s, w, e, x, hT, hD, ⟨i1, i2, i3⟩, ⟨x1, x2, x3⟩, so, hR, hA⟩ := id h
  obtain ⟨h1, hl, h3, h4, h5, h6, h7, h8, h9, h10⟩ := id hD
  obtain ⟨r, I', J', q', w1, w2, u1, u2, u3, u4, u5, u6, w3, w4⟩ := op_law h1 hl h3 h4 h5 h6 h7 LC LM e0
  exact ⟨r, I', LC, J', LM, w1, w2, R_law2 hT hD i1 i2 i3 x1 x2 x3 so hR hA u1 u2 u3 u4 u5 u6 w3 w4⟩
theorem d_image : pd_image ReL := by
  intro al IC LC IM LM  h
  obtain ⟨n, c, W, q, g, a, K, kw, l, b, s, w, e, x, hT, hD, ⟨i1, i2, i3⟩, ⟨x1, x2, x3⟩, so, hR, hA⟩ := id h
  obtain ⟨h1, hl, h3, h4, h5, h6, h7, h8, h9, h10⟩ := id hD
  obtain ⟨r, I', L', J', b', s', w', e', w1, w2, u1, u2, u3, u4, w3, w4⟩ := op_image hD i1 i2 i3 LM
  exact ⟨r, I', L', J', LM, w1, w2, R_img (LC := LC) hT x1 x2 x3 so hR hA u1 u2 u3 u4 w3 w4⟩
theorem R_t1b {al : Bool} {IC : am_I} {LC : am_L} {IM : am_I} {IC' IM' : am_I} {LM' : am_L} {n : Nat} {c : Nat → Int32} {W : Nat → (Nat → Nat) → Int32} {q : Nat → Nat} {g : Nat → Nat → Nat} {a : Nat} {K : Nat → Nat → Nat → Nat} {kw l : Nat → Nat} {b : Nat} {s : Nat → Nat → Nat} {w : Nat} {e : Nat → Nat} {x : Nat → Nat → Nat} (hT : TP IC IM n c) (hD : DY IC LC IM W q g a K kw l) (i1 : GI g b s w e) (i2 : CI IC LC (g 0 0) b s w e) (i3 : MI IM (g 0 0) b s w e) (x1 : GX x) (x2 : CX IC x) (x3 : MX IM x) (so : SO IC) (hR : g 0 0 = 0 ∨ rDu IC g) (hA : al = false → IC 51 8 = nI 0) {wl : (Nat → Nat) → Int32} (hq : q 0 < 4) (u1 : CL IC' (wu W (q 0) wl) (q1u q)) (u2 : ML IM' (wu W (q 0) wl) (q1u q)) (v1 : IC' 1 1 = nI 0) (v2 : IM' 0 2 = nI 0) (A : am_ag sT1 IC IC') (B : am_ag sM1 IM IM') : ReL al IC' LC IM' LM' := by
  obtain ⟨h1, hl, h3, h4, h5, h6, h7, h8, h9, h10⟩ := id hD
  obtain ⟨t1, t2, t3, t4, t5, t6⟩ := hT
  have h2 := hl.2
  refine ⟨0, c, wu W (q 0) wl, q1u q, g, a, K, kw, l, b, s, w, e, x, ⟨Nat.zero_le _, v1, v2, (funext (fun j => A 2 j rfl)).trans t4, (funext (fun j => B 1 j rfl)).trans t5, fun j hj => absurd hj (Nat.not_lt_zero _)⟩, ⟨h1, ⟨?_, ?_⟩, CS_eq h3 (funext (fun j => A 3 j rfl)) (funext (fun j => A 4 j rfl)) (funext (fun j => A 5 j rfl)) (funext (fun j => A 6 j rfl)) (funext (fun j => A 7 j rfl)) (funext (fun j => A 8 j rfl)) (funext (fun j => A 9 j rfl)) (funext (fun j => A 10 j rfl)) (funext (fun j => A 11 j rfl)) (funext (fun j => A 12 j rfl)) (funext (fun j => A 13 j rfl)) (funext (fun j => A 40 j rfl)) (funext (fun j => A 41 j rfl)) (A 39 4 rfl) (A 39 5 rfl), u1, ?_, MS_eq h6 (B 0 25 rfl) (B 0 26 rfl) (funext (fun j => B 14 j rfl)) (funext (fun j => B 15 j rfl)) (funext (fun j => B 16 j rfl)) (funext (fun j => B 17 j rfl)), u2, h8, CP_eq h9 h8.1 (A 45 5 rfl) (A 45 6 rfl) (A 42 3 rfl) (funext (fun j => A 43 j rfl)) (fun j _ => ⟨A 48 j rfl, A 49 j rfl, A 50 j rfl, rfl, rfl⟩), MP_eq h10 (B 0 30 rfl) (funext (fun j => B 18 j rfl)) (fun j _ => B 17 j rfl)⟩, ⟨i1, CI_eq i2 (A 45 7 rfl) (A 48 40 rfl) (A 49 40 rfl) (A 42 2 rfl) (funext (fun j => A 44 j rfl)) rfl rfl, MI_eq i3 (B 0 43 rfl) (funext (fun j => B 25 j rfl))⟩, ⟨x1, CX_eq x2 (A 60 5 rfl) (funext (fun j => A 61 j rfl)) (funext (fun j => A 62 j rfl)), MX_eq x3 (B 0 39 rfl) (funext (fun j => B 21 j rfl)) (funext (fun j => B 22 j rfl))⟩, SO_ne so (funext (fun j => A 54 j rfl)), rDu_eq hR (funext (fun j => A 52 j rfl)) (funext (fun j => A 53 j rfl)) (funext (fun j => A 54 j rfl)) (funext (fun j => A 55 j rfl)) (funext (fun j => A 67 j rfl)) (A 51 8 rfl) (A 51 9 rfl) (A 51 10 rfl) (A 51 11 rfl), fun z => (A 51 8 rfl).trans (hA z)⟩
  · show q 0 + 1 ≤ 4
    omega
  · show q 1 ≤ q 0 + 1
    omega
  · refine ((A 39 6 rfl)).trans (h5.trans ?_)
    exact bits_ext (fun i _ => (gh_wu hl wl g i).symm)
theorem d_text : pd_text ReL := by
  intro al IC LC IM LM e0 h
  obtain ⟨n, c, W, q, g, a, K, kw, l, b, s, w, e, x, hT, hD, ⟨i1, i2, i3⟩, ⟨x1, x2, x3⟩, so, hR, hA⟩ := id h
  obtain ⟨h1, hl, h3, h4, h5, h6, h7, h8, h9, h10⟩ := id hD
  obtain ⟨t, t1, t2, t3⟩ := TP_t hT
  by_cases z0 : e0 = nI 0
  · subst z0
    obtain ⟨r, I', J', w1, w2, w3⟩ := text0 t1 hl am_N 1900 am_N2 LC LM t2 t3 h4
    obtain ⟨r2, I2, s1, s2⟩ := text0S t1 hl am_N 1900 am_N2 LC LM t2 t3 h4 so
    have eI : I2 = I' := by
      have := s1.symm.trans w1
      simp only [Option.some.injEq, Prod.mk.injEq] at this
      exact this.2.1
    subst eI
    refine ⟨r, I2, LC, J', LM, w1, w2, ?_⟩
    rcases w3 with ⟨w3, w4⟩ | ⟨g', y1, y2, y3, y4, y5, y6, y7, y8, y9, y10, y11, y12, y13, y14, y15, y16, y17, y18, y19, y20⟩
    · exact R_scr h w3 w4
    · exact R_war hT hD y1 y4 y5 y6 y7 y8 y9 y10 y11 y12 y13 y14 y15 y16 y17 y18 y19 y20 s2
  · by_cases z1 : e0 = nI 1
    · subst z1
      obtain ⟨r, I', J', w1, w2, w3, w4⟩ := text1 t1 hl am_N 1900 am_N2 (by omega) LC LM t2 t3 h4 h7
      refine ⟨r, I', LC, J', LM, w1, w2, ?_⟩
      rcases w4 with ⟨y1, y2, y3⟩ | ⟨wl, y1, y2, y3, y4, y5, y6⟩
      · exact R_t1a hT hD i1 i2 i3 x1 x2 x3 so hR hA y1 w3 y2 y3
      · exact R_t1b hT hD i1 i2 i3 x1 x2 x3 so hR hA y1 y2 y3 y4 y5 y6 w3
    · have y0 : ¬ e0 = 0 := z0
      have y1 : ¬ e0 = 1 := z1
      refine ⟨-1, IC, LC, IM, LM, ?_, ?_, h⟩
      · unfold fX11_text
        rw [if_neg y0, if_neg y1]
      · unfold fX12_text fX12_text_b22
        rw [if_neg y0, if_neg y1]
