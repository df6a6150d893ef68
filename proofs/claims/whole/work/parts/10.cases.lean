theorem kv_2119 : lw_tbl[2119]? = some (Cond.constantLong RL 76 (4294967295 : Int64)) := by decide +kernel
theorem kv_552 : lw_tbl[552]? = some (Cond.methodLink RL 19 yX11_feed) := by decide +kernel
theorem kv_1614 : lw_tbl[1614]? = some (Cond.methodLink RL 23 yX12_feed) := by decide +kernel
theorem kv_563 : lw_tbl[563]? = some (Cond.methodLink RL 24 yX11_end) := by decide +kernel
theorem kv_1621 : lw_tbl[1621]? = some (Cond.methodLink RL 28 yX12_end) := by decide +kernel
theorem kv_567 : lw_tbl[567]? = some (Cond.methodLink RL 29 yX11_fault) := by decide +kernel
theorem kv_1625 : lw_tbl[1625]? = some (Cond.methodLink RL 33 yX12_fault) := by decide +kernel
theorem kv_798 : lw_tbl[798]? = some (Cond.methodLink RL 34 yX11_text) := by decide +kernel
theorem kv_1748 : lw_tbl[1748]? = some (Cond.methodLink RL 37 yX12_text) := by decide +kernel
theorem kv_863 : lw_tbl[863]? = some (Cond.methodLink RL 48 yX11_orchard) := by decide +kernel
theorem kv_1806 : lw_tbl[1806]? = some (Cond.methodLink RL 51 yX12_orchard) := by decide +kernel
theorem kv_867 : lw_tbl[867]? = some (Cond.methodLink RL 52 yX11_law) := by decide +kernel
theorem kv_1810 : lw_tbl[1810]? = some (Cond.methodLink RL 55 yX12_law) := by decide +kernel
theorem kv_873 : lw_tbl[873]? = some (Cond.methodLink RL 56 yX11_won) := by decide +kernel
theorem kv_1814 : lw_tbl[1814]? = some (Cond.methodLink RL 59 yX12_won) := by decide +kernel
theorem kv_891 : lw_tbl[891]? = some (Cond.methodLink RL 60 yX11_go) := by decide +kernel
theorem kv_1830 : lw_tbl[1830]? = some (Cond.methodLink RL 63 yX12_go) := by decide +kernel
theorem kv_958 : lw_tbl[958]? = some (Cond.methodLink RL 64 yX11_stay) := by decide +kernel
theorem kv_1858 : lw_tbl[1858]? = some (Cond.methodLink RL 67 yX12_stay) := by decide +kernel
theorem kv_974 : lw_tbl[974]? = some (Cond.methodLink RL 68 yX11_press) := by decide +kernel
theorem kv_1870 : lw_tbl[1870]? = some (Cond.methodLink RL 71 yX12_press) := by decide +kernel
theorem kv_989 : lw_tbl[989]? = some (Cond.methodLink RL 72 yX11_evening) := by decide +kernel
theorem kv_1883 : lw_tbl[1883]? = some (Cond.methodLink RL 75 yX12_evening) := by decide +kernel
theorem kv_1004 : lw_tbl[1004]? = some (Cond.methodLink RL 78 yX11_march) := by decide +kernel
theorem kv_1891 : lw_tbl[1891]? = some (Cond.methodLink RL 82 yX12_march) := by decide +kernel
theorem kv_1023 : lw_tbl[1023]? = some (Cond.methodLink RL 83 yX11_undo) := by decide +kernel
theorem kv_1909 : lw_tbl[1909]? = some (Cond.methodLink RL 86 yX12_undo) := by decide +kernel
theorem kv_1035 : lw_tbl[1035]? = some (Cond.methodLink RL 87 yX11_log) := by decide +kernel
theorem kv_1913 : lw_tbl[1913]? = some (Cond.methodLink RL 90 yX12_log) := by decide +kernel
theorem kv_1168 : lw_tbl[1168]? = some (Cond.methodLink RL 100 yX11_escorts) := by decide +kernel
theorem kv_1969 : lw_tbl[1969]? = some (Cond.methodLink RL 103 yX12_escorts) := by decide +kernel
theorem kv_1205 : lw_tbl[1205]? = some (Cond.methodLink RL 104 yX11_loophole) := by decide +kernel
theorem kv_1986 : lw_tbl[1986]? = some (Cond.methodLink RL 107 yX12_loophole) := by decide +kernel
theorem kv_1214 : lw_tbl[1214]? = some (Cond.methodLink RL 108 yX11_closed) := by decide +kernel
theorem kv_1994 : lw_tbl[1994]? = some (Cond.methodLink RL 111 yX12_closed) := by decide +kernel
theorem kv_1228 : lw_tbl[1228]? = some (Cond.methodLink RL 112 yX11_reads) := by decide +kernel
theorem kv_1998 : lw_tbl[1998]? = some (Cond.methodLink RL 115 yX12_reads) := by decide +kernel
theorem kv_1232 : lw_tbl[1232]? = some (Cond.methodLink RL 116 yX11_away) := by decide +kernel
theorem kv_2002 : lw_tbl[2002]? = some (Cond.methodLink RL 119 yX12_away) := by decide +kernel
theorem kv_1236 : lw_tbl[1236]? = some (Cond.methodLink RL 120 yX11_forced) := by decide +kernel
theorem kv_2010 : lw_tbl[2010]? = some (Cond.methodLink RL 123 yX12_forced) := by decide +kernel
theorem kv_1244 : lw_tbl[1244]? = some (Cond.methodLink RL 124 yX11_soonest) := by decide +kernel
theorem kv_2014 : lw_tbl[2014]? = some (Cond.methodLink RL 127 yX12_soonest) := by decide +kernel
theorem kv_1256 : lw_tbl[1256]? = some (Cond.methodLink RL 128 yX11_pony) := by decide +kernel
theorem kv_2022 : lw_tbl[2022]? = some (Cond.methodLink RL 131 yX12_pony) := by decide +kernel
theorem kv_1287 : lw_tbl[1287]? = some (Cond.methodLink RL 132 yX11_gets) := by decide +kernel
theorem kv_2054 : lw_tbl[2054]? = some (Cond.methodLink RL 135 yX12_gets) := by decide +kernel
theorem kv_1300 : lw_tbl[1300]? = some (Cond.methodLink RL 136 yX11_resting) := by decide +kernel
theorem kv_2062 : lw_tbl[2062]? = some (Cond.methodLink RL 139 yX12_resting) := by decide +kernel
theorem kv_1309 : lw_tbl[1309]? = some (Cond.methodLink RL 140 yX11_letter) := by decide +kernel
theorem kv_2066 : lw_tbl[2066]? = some (Cond.methodLink RL 143 yX12_letter) := by decide +kernel
theorem kv_1317 : lw_tbl[1317]? = some (Cond.methodLink RL 144 yX11_fit) := by decide +kernel
theorem kv_2070 : lw_tbl[2070]? = some (Cond.methodLink RL 147 yX12_fit) := by decide +kernel
theorem kv_1345 : lw_tbl[1345]? = some (Cond.methodLink RL 148 yX11_ask) := by decide +kernel
theorem kv_2084 : lw_tbl[2084]? = some (Cond.methodLink RL 151 yX12_ask) := by decide +kernel
theorem kv_1379 : lw_tbl[1379]? = some (Cond.methodLink RL 152 yX11_odds) := by decide +kernel
theorem kv_2093 : lw_tbl[2093]? = some (Cond.methodLink RL 155 yX12_odds) := by decide +kernel
theorem kv_1392 : lw_tbl[1392]? = some (Cond.methodLink RL 156 yX11_hurry) := by decide +kernel
theorem kv_2103 : lw_tbl[2103]? = some (Cond.methodLink RL 159 yX12_hurry) := by decide +kernel
theorem kv_1262 : lw_tbl[1262]? = some (Cond.methodLink RL 160 yX11_behind) := by decide +kernel
theorem kv_2030 : lw_tbl[2030]? = some (Cond.methodLink RL 163 yX12_behind) := by decide +kernel
theorem kv_1266 : lw_tbl[1266]? = some (Cond.methodLink RL 164 yX11_next) := by decide +kernel
theorem kv_2034 : lw_tbl[2034]? = some (Cond.methodLink RL 167 yX12_next) := by decide +kernel
theorem kv_1257 : lw_tbl[1257]? = some (Cond.methodLink RL 168 yX11_last) := by decide +kernel
theorem kv_2026 : lw_tbl[2026]? = some (Cond.methodLink RL 171 yX12_last) := by decide +kernel
theorem kv_1274 : lw_tbl[1274]? = some (Cond.methodLink RL 172 yX11_even) := by decide +kernel
theorem kv_2042 : lw_tbl[2042]? = some (Cond.methodLink RL 175 yX12_even) := by decide +kernel
theorem kv_1375 : lw_tbl[1375]? = some (Cond.methodLink RL 184 yX11_sure) := by decide +kernel
theorem kv_2089 : lw_tbl[2089]? = some (Cond.methodLink RL 187 yX12_sure) := by decide +kernel
theorem kv_1283 : lw_tbl[1283]? = some (Cond.methodLink RL 188 yX11_weary) := by decide +kernel
theorem kv_2050 : lw_tbl[2050]? = some (Cond.methodLink RL 191 yX12_weary) := by decide +kernel
theorem kv_1270 : lw_tbl[1270]? = some (Cond.methodLink RL 192 yX11_ahead) := by decide +kernel
theorem kv_2038 : lw_tbl[2038]? = some (Cond.methodLink RL 195 yX12_ahead) := by decide +kernel
theorem kv_1278 : lw_tbl[1278]? = some (Cond.methodLink RL 196 yX11_meeting) := by decide +kernel
theorem kv_2046 : lw_tbl[2046]? = some (Cond.methodLink RL 199 yX12_meeting) := by decide +kernel
theorem kv_1052 : lw_tbl[1052]? = some (Cond.methodLink RL 200 yX11_image) := by decide +kernel
theorem kv_2107 : lw_tbl[2107]? = some (Cond.methodLink RL 203 yX12_image) := by decide +kernel
theorem kv_1066 : lw_tbl[1066]? = some (Cond.methodLink RL 204 yX11_back) := by decide +kernel
theorem kv_2111 : lw_tbl[2111]? = some (Cond.methodLink RL 207 yX12_back) := by decide +kernel
theorem kv_881 : lw_tbl[881]? = some (Cond.methodLink RL 208 yX11_count) := by decide +kernel
theorem kv_2115 : lw_tbl[2115]? = some (Cond.methodLink RL 211 yX12_count) := by decide +kernel
/-! THE LAW'S LOOP, over what each operation owes: from related states the same answer, and related states behind it -/
abbrev am_Rl : Type := Bool → am_I → am_L → am_I → am_L → Prop
def am_N : Nat := 100000

def pd_feed (Rl : am_Rl) : Prop := ∀ (al : Bool) (IC : am_I) (LC : am_L) (IM : am_I) (LM : am_L) (e0 : Int32) (e1 : Int32) (e2 : Int32) (e3 : Int32) (e4 : Int32), Rl al IC LC IM LM → ∃ (r : Int32) (IC' : am_I) (LC' : am_L) (IM' : am_I) (LM' : am_L), fX11_feed am_N 1900 e0 e1 e2 e3 e4 IC LC = some (r, IC', LC') ∧ fX12_feed am_N 1900 e0 e1 e2 e3 e4 IM LM = some (r, IM', LM') ∧ Rl al IC' LC' IM' LM'
def pd_end (Rl : am_Rl) : Prop := ∀ (al : Bool) (IC : am_I) (LC : am_L) (IM : am_I) (LM : am_L) (e0 : Int32), Rl al IC LC IM LM → ∃ (r : Int32) (IC' : am_I) (LC' : am_L) (IM' : am_I) (LM' : am_L), fX11_end am_N 1900 e0 IC LC = some (r, IC', LC') ∧ fX12_end am_N 1900 e0 IM LM = some (r, IM', LM') ∧ Rl al IC' LC' IM' LM'
def pd_fault (Rl : am_Rl) : Prop := ∀ (al : Bool) (IC : am_I) (LC : am_L) (IM : am_I) (LM : am_L) (e0 : Int32), Rl al IC LC IM LM → ∃ (r : Int32) (IC' : am_I) (LC' : am_L) (IM' : am_I) (LM' : am_L), fX11_fault am_N 1900 e0 IC LC = some (r, IC', LC') ∧ fX12_fault am_N 1900 e0 IM LM = some (r, IM', LM') ∧ Rl al IC' LC' IM' LM'
def pd_text (Rl : am_Rl) : Prop := ∀ (al : Bool) (IC : am_I) (LC : am_L) (IM : am_I) (LM : am_L) (e0 : Int32), Rl al IC LC IM LM → ∃ (r : Int32) (IC' : am_I) (LC' : am_L) (IM' : am_I) (LM' : am_L), fX11_text am_N 1900 e0 IC LC = some (r, IC', LC') ∧ fX12_text am_N 1900 e0 IM LM = some (r, IM', LM') ∧ Rl al IC' LC' IM' LM'
def pd_orchard (Rl : am_Rl) : Prop := ∀ (al : Bool) (IC : am_I) (LC : am_L) (IM : am_I) (LM : am_L) (e0 : Int32) (e1 : Int32), Rl al IC LC IM LM → ∃ (r : Int32) (IC' : am_I) (LC' : am_L) (IM' : am_I) (LM' : am_L), fX11_orchard am_N 1900 e0 e1 IC LC = some (r, IC', LC') ∧ fX12_orchard am_N 1900 e0 e1 IM LM = some (r, IM', LM') ∧ Rl al IC' LC' IM' LM'
def pd_law (Rl : am_Rl) : Prop := ∀ (al : Bool) (IC : am_I) (LC : am_L) (IM : am_I) (LM : am_L) (e0 : Int32), Rl al IC LC IM LM → ∃ (r : Int32) (IC' : am_I) (LC' : am_L) (IM' : am_I) (LM' : am_L), fX11_law am_N 1900 e0 IC LC = some (r, IC', LC') ∧ fX12_law am_N 1900 e0 IM LM = some (r, IM', LM') ∧ Rl al IC' LC' IM' LM'
def pd_won (Rl : am_Rl) : Prop := ∀ (al : Bool) (IC : am_I) (LC : am_L) (IM : am_I) (LM : am_L), Rl al IC LC IM LM → ∃ (r : Int32) (IC' : am_I) (LC' : am_L) (IM' : am_I) (LM' : am_L), fX11_won am_N 1900 IC LC = some (r, IC', LC') ∧ fX12_won am_N 1900 IM LM = some (r, IM', LM') ∧ Rl al IC' LC' IM' LM'
def pd_go (Rl : am_Rl) : Prop := ∀ (al : Bool) (IC : am_I) (LC : am_L) (IM : am_I) (LM : am_L) (e0 : Int32), Rl al IC LC IM LM → ∃ (r : Int32) (IC' : am_I) (LC' : am_L) (IM' : am_I) (LM' : am_L), fX11_go am_N 1900 e0 IC LC = some (r, IC', LC') ∧ fX12_go am_N 1900 e0 IM LM = some (r, IM', LM') ∧ Rl al IC' LC' IM' LM'
def pd_stay (Rl : am_Rl) : Prop := ∀ (al : Bool) (IC : am_I) (LC : am_L) (IM : am_I) (LM : am_L) (e0 : Int32), Rl al IC LC IM LM → ∃ (r : Int32) (IC' : am_I) (LC' : am_L) (IM' : am_I) (LM' : am_L), fX11_stay am_N 1900 e0 IC LC = some (r, IC', LC') ∧ fX12_stay am_N 1900 e0 IM LM = some (r, IM', LM') ∧ Rl al IC' LC' IM' LM'
def pd_press (Rl : am_Rl) : Prop := ∀ (al : Bool) (IC : am_I) (LC : am_L) (IM : am_I) (LM : am_L) (e0 : Int32) (e1 : Int32), Rl al IC LC IM LM → ∃ (r : Int32) (IC' : am_I) (LC' : am_L) (IM' : am_I) (LM' : am_L), fX11_press am_N 1900 e0 e1 IC LC = some (r, IC', LC') ∧ fX12_press am_N 1900 e0 e1 IM LM = some (r, IM', LM') ∧ Rl al IC' LC' IM' LM'
def pd_evening (Rl : am_Rl) : Prop := ∀ (al : Bool) (IC : am_I) (LC : am_L) (IM : am_I) (LM : am_L), Rl al IC LC IM LM → ∃ (r : Int32) (IC' : am_I) (LC' : am_L) (IM' : am_I) (LM' : am_L), fX11_evening am_N 1900 IC LC = some (r, IC', LC') ∧ fX12_evening am_N 1900 IM LM = some (r, IM', LM') ∧ Rl al IC' LC' IM' LM'
def pd_march (Rl : am_Rl) : Prop := ∀ (al : Bool) (IC : am_I) (LC : am_L) (IM : am_I) (LM : am_L) (e0 : Int32) (e1 : Int64), Rl al IC LC IM LM → ∃ (r : Int32) (IC' : am_I) (LC' : am_L) (IM' : am_I) (LM' : am_L), fX11_march am_N 1900 e0 e1 IC LC = some (r, IC', LC') ∧ fX12_march am_N 1900 e0 e1 IM LM = some (r, IM', LM') ∧ Rl al IC' LC' IM' LM'
def pd_undo (Rl : am_Rl) : Prop := ∀ (al : Bool) (IC : am_I) (LC : am_L) (IM : am_I) (LM : am_L), Rl al IC LC IM LM → ∃ (r : Int32) (IC' : am_I) (LC' : am_L) (IM' : am_I) (LM' : am_L), fX11_undo am_N 1900 IC LC = some (r, IC', LC') ∧ fX12_undo am_N 1900 IM LM = some (r, IM', LM') ∧ Rl al IC' LC' IM' LM'
def pd_log (Rl : am_Rl) : Prop := ∀ (al : Bool) (IC : am_I) (LC : am_L) (IM : am_I) (LM : am_L) (e0 : Int32) (e1 : Int32), Rl al IC LC IM LM → ∃ (r : Int32) (IC' : am_I) (LC' : am_L) (IM' : am_I) (LM' : am_L), fX11_log am_N 1900 e0 e1 IC LC = some (r, IC', LC') ∧ fX12_log am_N 1900 e0 e1 IM LM = some (r, IM', LM') ∧ Rl al IC' LC' IM' LM'
def pd_escorts (Rl : am_Rl) : Prop := ∀ (al : Bool) (IC : am_I) (LC : am_L) (IM : am_I) (LM : am_L) (e0 : Int32) (e1 : Int32), Rl al IC LC IM LM → ∃ (r : Int32) (IC' : am_I) (LC' : am_L) (IM' : am_I) (LM' : am_L), fX11_escorts am_N 1900 e0 e1 IC LC = some (r, IC', LC') ∧ fX12_escorts am_N 1900 e0 e1 IM LM = some (r, IM', LM') ∧ Rl al IC' LC' IM' LM'
def pd_loophole (Rl : am_Rl) : Prop := ∀ (al : Bool) (IC : am_I) (LC : am_L) (IM : am_I) (LM : am_L) (e0 : Int32), Rl al IC LC IM LM → ∃ (r : Int32) (IC' : am_I) (LC' : am_L) (IM' : am_I) (LM' : am_L), fX11_loophole am_N 1900 e0 IC LC = some (r, IC', LC') ∧ fX12_loophole am_N 1900 e0 IM LM = some (r, IM', LM') ∧ Rl al IC' LC' IM' LM'
def pd_closed (Rl : am_Rl) : Prop := ∀ (al : Bool) (IC : am_I) (LC : am_L) (IM : am_I) (LM : am_L), Rl al IC LC IM LM → ∃ (r : Int32) (IC' : am_I) (LC' : am_L) (IM' : am_I) (LM' : am_L), fX11_closed am_N 1900 IC LC = some (r, IC', LC') ∧ fX12_closed am_N 1900 IM LM = some (r, IM', LM') ∧ Rl al IC' LC' IM' LM'
def pd_reads (Rl : am_Rl) : Prop := ∀ (al : Bool) (IC : am_I) (LC : am_L) (IM : am_I) (LM : am_L) (e0 : Int32), Rl al IC LC IM LM → ∃ (r : Int32) (IC' : am_I) (LC' : am_L) (IM' : am_I) (LM' : am_L), fX11_reads am_N 1900 e0 IC LC = some (r, IC', LC') ∧ fX12_reads am_N 1900 e0 IM LM = some (r, IM', LM') ∧ Rl al IC' LC' IM' LM'
def pd_away (Rl : am_Rl) : Prop := ∀ (al : Bool) (IC : am_I) (LC : am_L) (IM : am_I) (LM : am_L) (e0 : Int32), Rl al IC LC IM LM → ∃ (r : Int32) (IC' : am_I) (LC' : am_L) (IM' : am_I) (LM' : am_L), fX11_away am_N 1900 e0 IC LC = some (r, IC', LC') ∧ fX12_away am_N 1900 e0 IM LM = some (r, IM', LM') ∧ Rl al IC' LC' IM' LM'
def pd_forced (Rl : am_Rl) : Prop := ∀ (al : Bool) (IC : am_I) (LC : am_L) (IM : am_I) (LM : am_L) (e0 : Int32), Rl al IC LC IM LM → ∃ (r : Int32) (IC' : am_I) (LC' : am_L) (IM' : am_I) (LM' : am_L), fX11_forced am_N 1900 e0 IC LC = some (r, IC', LC') ∧ fX12_forced am_N 1900 e0 IM LM = some (r, IM', LM') ∧ Rl al IC' LC' IM' LM'
def pd_soonest (Rl : am_Rl) : Prop := ∀ (al : Bool) (IC : am_I) (LC : am_L) (IM : am_I) (LM : am_L) (e0 : Int32), Rl al IC LC IM LM → ∃ (r : Int32) (IC' : am_I) (LC' : am_L) (IM' : am_I) (LM' : am_L), fX11_soonest am_N 1900 e0 IC LC = some (r, IC', LC') ∧ fX12_soonest am_N 1900 e0 IM LM = some (r, IM', LM') ∧ Rl al IC' LC' IM' LM'
def pd_pony (Rl : am_Rl) : Prop := ∀ (al : Bool) (IC : am_I) (LC : am_L) (IM : am_I) (LM : am_L) (e0 : Int32), Rl al IC LC IM LM → ∃ (r : Int32) (IC' : am_I) (LC' : am_L) (IM' : am_I) (LM' : am_L), fX11_pony am_N 1900 e0 IC LC = some (r, IC', LC') ∧ fX12_pony am_N 1900 e0 IM LM = some (r, IM', LM') ∧ Rl al IC' LC' IM' LM'
def pd_gets (Rl : am_Rl) : Prop := ∀ (al : Bool) (IC : am_I) (LC : am_L) (IM : am_I) (LM : am_L) (e0 : Int32) (e1 : Int32), Rl al IC LC IM LM → ∃ (r : Int32) (IC' : am_I) (LC' : am_L) (IM' : am_I) (LM' : am_L), fX11_gets am_N 1900 e0 e1 IC LC = some (r, IC', LC') ∧ fX12_gets am_N 1900 e0 e1 IM LM = some (r, IM', LM') ∧ Rl al IC' LC' IM' LM'
def pd_resting (Rl : am_Rl) : Prop := ∀ (al : Bool) (IC : am_I) (LC : am_L) (IM : am_I) (LM : am_L) (e0 : Int32), Rl al IC LC IM LM → ∃ (r : Int32) (IC' : am_I) (LC' : am_L) (IM' : am_I) (LM' : am_L), fX11_resting am_N 1900 e0 IC LC = some (r, IC', LC') ∧ fX12_resting am_N 1900 e0 IM LM = some (r, IM', LM') ∧ Rl al IC' LC' IM' LM'
def pd_letter (Rl : am_Rl) : Prop := ∀ (al : Bool) (IC : am_I) (LC : am_L) (IM : am_I) (LM : am_L) (e0 : Int32) (e1 : Int32), Rl al IC LC IM LM → ∃ (r : Int32) (IC' : am_I) (LC' : am_L) (IM' : am_I) (LM' : am_L), fX11_letter am_N 1900 e0 e1 IC LC = some (r, IC', LC') ∧ fX12_letter am_N 1900 e0 e1 IM LM = some (r, IM', LM') ∧ Rl al IC' LC' IM' LM'
def pd_fit (Rl : am_Rl) : Prop := ∀ (al : Bool) (IC : am_I) (LC : am_L) (IM : am_I) (LM : am_L) (e0 : Int32) (e1 : Int32), Rl al IC LC IM LM → ∃ (r : Int32) (IC' : am_I) (LC' : am_L) (IM' : am_I) (LM' : am_L), fX11_fit am_N 1900 e0 e1 IC LC = some (r, IC', LC') ∧ fX12_fit am_N 1900 e0 e1 IM LM = some (r, IM', LM') ∧ Rl al IC' LC' IM' LM'
def pd_ask (Rl : am_Rl) : Prop := ∀ (al : Bool) (IC : am_I) (LC : am_L) (IM : am_I) (LM : am_L) (e0 : Int32) (e1 : Int32), Rl al IC LC IM LM → ∃ (r : Int32) (IC' : am_I) (LC' : am_L) (IM' : am_I) (LM' : am_L), fX11_ask am_N 1900 e0 e1 IC LC = some (r, IC', LC') ∧ fX12_ask am_N 1900 e0 e1 IM LM = some (r, IM', LM') ∧ Rl al IC' LC' IM' LM'
def pd_odds (Rl : am_Rl) : Prop := ∀ (al : Bool) (IC : am_I) (LC : am_L) (IM : am_I) (LM : am_L) (e0 : Int32) (e1 : Int32), Rl al IC LC IM LM → ∃ (r : Int32) (IC' : am_I) (LC' : am_L) (IM' : am_I) (LM' : am_L), fX11_odds am_N 1900 e0 e1 IC LC = some (r, IC', LC') ∧ fX12_odds am_N 1900 e0 e1 IM LM = some (r, IM', LM') ∧ Rl al IC' LC' IM' LM'
def pd_hurry (Rl : am_Rl) : Prop := ∀ (al : Bool) (IC : am_I) (LC : am_L) (IM : am_I) (LM : am_L) (e0 : Int32) (e1 : Int32), Rl al IC LC IM LM → ∃ (r : Int32) (IC' : am_I) (LC' : am_L) (IM' : am_I) (LM' : am_L), fX11_hurry am_N 1900 e0 e1 IC LC = some (r, IC', LC') ∧ fX12_hurry am_N 1900 e0 e1 IM LM = some (r, IM', LM') ∧ Rl al IC' LC' IM' LM'
def pd_behind (Rl : am_Rl) : Prop := ∀ (al : Bool) (IC : am_I) (LC : am_L) (IM : am_I) (LM : am_L) (e0 : Int32), Rl al IC LC IM LM → ∃ (r : Int32) (IC' : am_I) (LC' : am_L) (IM' : am_I) (LM' : am_L), fX11_behind am_N 1900 e0 IC LC = some (r, IC', LC') ∧ fX12_behind am_N 1900 e0 IM LM = some (r, IM', LM') ∧ Rl al IC' LC' IM' LM'
def pd_next (Rl : am_Rl) : Prop := ∀ (al : Bool) (IC : am_I) (LC : am_L) (IM : am_I) (LM : am_L) (e0 : Int32), Rl al IC LC IM LM → ∃ (r : Int32) (IC' : am_I) (LC' : am_L) (IM' : am_I) (LM' : am_L), fX11_next am_N 1900 e0 IC LC = some (r, IC', LC') ∧ fX12_next am_N 1900 e0 IM LM = some (r, IM', LM') ∧ Rl al IC' LC' IM' LM'
def pd_last (Rl : am_Rl) : Prop := ∀ (al : Bool) (IC : am_I) (LC : am_L) (IM : am_I) (LM : am_L), Rl al IC LC IM LM → ∃ (r : Int32) (IC' : am_I) (LC' : am_L) (IM' : am_I) (LM' : am_L), fX11_last am_N 1900 IC LC = some (r, IC', LC') ∧ fX12_last am_N 1900 IM LM = some (r, IM', LM') ∧ Rl al IC' LC' IM' LM'
def pd_even (Rl : am_Rl) : Prop := ∀ (al : Bool) (IC : am_I) (LC : am_L) (IM : am_I) (LM : am_L), Rl al IC LC IM LM → ∃ (r : Int32) (IC' : am_I) (LC' : am_L) (IM' : am_I) (LM' : am_L), fX11_even am_N 1900 IC LC = some (r, IC', LC') ∧ fX12_even am_N 1900 IM LM = some (r, IM', LM') ∧ Rl al IC' LC' IM' LM'
def pd_sure (Rl : am_Rl) : Prop := ∀ (al : Bool) (IC : am_I) (LC : am_L) (IM : am_I) (LM : am_L) (e0 : Int32), Rl al IC LC IM LM → ∃ (r : Int32) (IC' : am_I) (LC' : am_L) (IM' : am_I) (LM' : am_L), fX11_sure am_N 1900 e0 IC LC = some (r, IC', LC') ∧ fX12_sure am_N 1900 e0 IM LM = some (r, IM', LM') ∧ Rl al IC' LC' IM' LM'
def pd_weary (Rl : am_Rl) : Prop := ∀ (al : Bool) (IC : am_I) (LC : am_L) (IM : am_I) (LM : am_L), Rl al IC LC IM LM → ∃ (r : Int32) (IC' : am_I) (LC' : am_L) (IM' : am_I) (LM' : am_L), fX11_weary am_N 1900 IC LC = some (r, IC', LC') ∧ fX12_weary am_N 1900 IM LM = some (r, IM', LM') ∧ Rl al IC' LC' IM' LM'
def pd_ahead (Rl : am_Rl) : Prop := ∀ (al : Bool) (IC : am_I) (LC : am_L) (IM : am_I) (LM : am_L) (e0 : Int32), Rl al IC LC IM LM → ∃ (r : Int32) (IC' : am_I) (LC' : am_L) (IM' : am_I) (LM' : am_L), fX11_ahead am_N 1900 e0 IC LC = some (r, IC', LC') ∧ fX12_ahead am_N 1900 e0 IM LM = some (r, IM', LM') ∧ Rl al IC' LC' IM' LM'
def pd_meeting (Rl : am_Rl) : Prop := ∀ (al : Bool) (IC : am_I) (LC : am_L) (IM : am_I) (LM : am_L) (e0 : Int32) (e1 : Int32), Rl al IC LC IM LM → ∃ (r : Int32) (IC' : am_I) (LC' : am_L) (IM' : am_I) (LM' : am_L), fX11_meeting am_N 1900 e0 e1 IC LC = some (r, IC', LC') ∧ fX12_meeting am_N 1900 e0 e1 IM LM = some (r, IM', LM') ∧ Rl al IC' LC' IM' LM'
def pd_image (Rl : am_Rl) : Prop := ∀ (al : Bool) (IC : am_I) (LC : am_L) (IM : am_I) (LM : am_L), Rl al IC LC IM LM → ∃ (r : Int32) (IC' : am_I) (LC' : am_L) (IM' : am_I) (LM' : am_L), fX11_image am_N 1900 IC LC = some (r, IC', LC') ∧ fX12_image am_N 1900 IM LM = some (r, IM', LM') ∧ Rl al IC' LC' IM' LM'
def pd_back (Rl : am_Rl) : Prop := ∀ (al : Bool) (IC : am_I) (LC : am_L) (IM : am_I) (LM : am_L), Rl al IC LC IM LM → ∃ (r : Int32) (IC' : am_I) (LC' : am_L) (IM' : am_I) (LM' : am_L), fX11_back am_N 1900 IC LC = some (r, IC', LC') ∧ fX12_back am_N 1900 IM LM = some (r, IM', LM') ∧ Rl al IC' LC' IM' LM'
def pd_count (Rl : am_Rl) : Prop := ∀ (al : Bool) (IC : am_I) (LC : am_L) (IM : am_I) (LM : am_L) (e0 : Int32), Rl al IC LC IM LM → ∃ (r : Int32) (IC' : am_I) (LC' : am_L) (IM' : am_I) (LM' : am_L), fX11_count am_N 1900 e0 IC LC = some (r, IC', LC') ∧ fX12_count am_N 1900 e0 IM LM = some (r, IM', LM') ∧ Rl al IC' LC' IM' LM'
set_option maxRecDepth 100000 in
set_option maxHeartbeats 4000000 in
theorem lc_feed {x : am_X} {Q : State → Prop} {L : Nat} {xs : Nat → Int32} {Rl : am_Rl} (hc : am_ok x cL_law yL_law 7 (some .boolean) 2048 601024 7293034) (hX : am_sc x L xs) (hp : pd_feed Rl) (iv : Int32) (hin1 : vp_in (iv + (1 : Int32)) L) (hin2 : vp_in (iv + (2 : Int32)) L) (hin3 : vp_in (iv + (3 : Int32)) L) (hin4 : vp_in (iv + (4 : Int32)) L) (hin5 : vp_in (iv + (5 : Int32)) L) (al : Bool) (IC : am_I) (LC : am_L) (IM : am_I) (LM : am_L) (o : Int64) (nc ns : Nat) (hnc : nc ≤ 601024 ∧ ns ≤ 7293034) (hR : Rl al IC LC IM LM) (kk : ∀ (IC : am_I) (LC : am_L) (IM : am_I) (LM : am_L), Rl al IC LC IM LM → am_JL x Q 1556 [some (.ref 1000020), some (.ref 500000), some (.ref 500001), some (.ref 500002), some (.int iv), none, none] [] al IC LC IM LM o nc ns) : am_JL x Q 236 [some (.ref 1000020), some (.ref 500000), some (.ref 500001), some (.ref 500002), some (.int iv), none, none] [] al IC LC IM LM o nc ns := by
  obtain ⟨r, IC', LC', IM', LM', e1, e2, hR2⟩ := hp al IC LC IM LM (xs (iv + (1 : Int32)).toNatClampNeg) (xs (iv + (2 : Int32)).toNatClampNeg) (xs (iv + (3 : Int32)).toNatClampNeg) (xs (iv + (4 : Int32)).toNatClampNeg) (xs (iv + (5 : Int32)).toNatClampNeg) hR
  refine l_aload_n hc dL_law_236 rfl ?_
  refine l_aload_n hc dL_law_237 rfl ?_
  refine l_iload hc dL_law_238 rfl ?_
  refine l_iconst (v := (1 : Int32)) hc dL_law_240 ci_1 ?_
  refine l_iadd hc dL_law_241 ?_
  refine l_sld hc hX dL_law_242 hin1 ?_
  refine l_aload_n hc dL_law_243 rfl ?_
  refine l_iload hc dL_law_244 rfl ?_
  refine l_iconst (v := (2 : Int32)) hc dL_law_246 ci_2 ?_
  refine l_iadd hc dL_law_247 ?_
  refine l_sld hc hX dL_law_248 hin2 ?_
  refine l_aload_n hc dL_law_249 rfl ?_
  refine l_iload hc dL_law_250 rfl ?_
  refine l_iconst (v := (3 : Int32)) hc dL_law_252 ci_3 ?_
  refine l_iadd hc dL_law_253 ?_
  refine l_sld hc hX dL_law_254 hin3 ?_
  refine l_aload_n hc dL_law_255 rfl ?_
  refine l_iload hc dL_law_256 rfl ?_
  refine l_iconst (v := (4 : Int32)) hc dL_law_258 ci_4 ?_
  refine l_iadd hc dL_law_259 ?_
  refine l_sld hc hX dL_law_260 hin4 ?_
  refine l_aload_n hc dL_law_261 rfl ?_
  refine l_iload hc dL_law_262 rfl ?_
  refine l_iconst (v := (5 : Int32)) hc dL_law_264 ci_5 ?_
  refine l_iadd hc dL_law_265 ?_
  refine l_sld hc hX dL_law_266 hin5 ?_
  refine l_callC (As := [.int (xs (iv + (1 : Int32)).toNatClampNeg), .int (xs (iv + (2 : Int32)).toNatClampNeg), .int (xs (iv + (3 : Int32)).toNatClampNeg), .int (xs (iv + (4 : Int32)).toNatClampNeg), .int (xs (iv + (5 : Int32)).toNatClampNeg)]) hc dL_law_267 (am_mem 552 kv_552 rfl) mX11_feed (kC_0 _) clX11 rfl rfl (by decide) (by decide) (Nat.le_of_ble_eq_true rfl) hnc (qX11_feed x.2.1 am_N 1900 (xs (iv + (1 : Int32)).toNatClampNeg) (xs (iv + (2 : Int32)).toNatClampNeg) (xs (iv + (3 : Int32)).toNatClampNeg) (xs (iv + (4 : Int32)).toNatClampNeg) (xs (iv + (5 : Int32)).toNatClampNeg) IC LC r IC' LC' e1) ?_
  refine l_aload_n hc dL_law_270 rfl ?_
  refine l_aload_n hc dL_law_271 rfl ?_
  refine l_iload hc dL_law_272 rfl ?_
  refine l_iconst (v := (1 : Int32)) hc dL_law_274 ci_1 ?_
  refine l_iadd hc dL_law_275 ?_
  refine l_sld hc hX dL_law_276 hin1 ?_
  refine l_aload_n hc dL_law_277 rfl ?_
  refine l_iload hc dL_law_278 rfl ?_
  refine l_iconst (v := (2 : Int32)) hc dL_law_280 ci_2 ?_
  refine l_iadd hc dL_law_281 ?_
  refine l_sld hc hX dL_law_282 hin2 ?_
  refine l_aload_n hc dL_law_283 rfl ?_
  refine l_iload hc dL_law_284 rfl ?_
  refine l_iconst (v := (3 : Int32)) hc dL_law_286 ci_3 ?_
  refine l_iadd hc dL_law_287 ?_
  refine l_sld hc hX dL_law_288 hin3 ?_
  refine l_aload_n hc dL_law_289 rfl ?_
  refine l_iload hc dL_law_290 rfl ?_
  refine l_iconst (v := (4 : Int32)) hc dL_law_292 ci_4 ?_
  refine l_iadd hc dL_law_293 ?_
  refine l_sld hc hX dL_law_294 hin4 ?_
  refine l_aload_n hc dL_law_295 rfl ?_
  refine l_iload hc dL_law_296 rfl ?_
  refine l_iconst (v := (5 : Int32)) hc dL_law_298 ci_5 ?_
  refine l_iadd hc dL_law_299 ?_
  refine l_sld hc hX dL_law_300 hin5 ?_
  refine l_callM (As := [.int (xs (iv + (1 : Int32)).toNatClampNeg), .int (xs (iv + (2 : Int32)).toNatClampNeg), .int (xs (iv + (3 : Int32)).toNatClampNeg), .int (xs (iv + (4 : Int32)).toNatClampNeg), .int (xs (iv + (5 : Int32)).toNatClampNeg)]) hc dL_law_301 (am_mem 1614 kv_1614 rfl) mX12_feed kM_0 clX12 rfl rfl (by decide) (by decide) (Nat.le_of_ble_eq_true rfl) hnc (qX12_feed x.2.1 am_N 1900 (xs (iv + (1 : Int32)).toNatClampNeg) (xs (iv + (2 : Int32)).toNatClampNeg) (xs (iv + (3 : Int32)).toNatClampNeg) (xs (iv + (4 : Int32)).toNatClampNeg) (xs (iv + (5 : Int32)).toNatClampNeg) IM LM r IM' LM' e2) ?_
  exact l_icmp_eq (tgt := 1556) hc dL_law_304 rfl (fun _ => kk _ _ _ _ hR2) (fun q => absurd rfl q)
set_option maxRecDepth 100000 in
set_option maxHeartbeats 4000000 in
theorem lc_end {x : am_X} {Q : State → Prop} {L : Nat} {xs : Nat → Int32} {Rl : am_Rl} (hc : am_ok x cL_law yL_law 7 (some .boolean) 2048 601024 7293034) (hX : am_sc x L xs) (hp : pd_end Rl) (iv : Int32) (hin1 : vp_in (iv + (1 : Int32)) L) (hin2 : vp_in (iv + (2 : Int32)) L) (hin3 : vp_in (iv + (3 : Int32)) L) (hin4 : vp_in (iv + (4 : Int32)) L) (hin5 : vp_in (iv + (5 : Int32)) L) (al : Bool) (IC : am_I) (LC : am_L) (IM : am_I) (LM : am_L) (o : Int64) (nc ns : Nat) (hnc : nc ≤ 601024 ∧ ns ≤ 7293034) (hR : Rl al IC LC IM LM) (kk : ∀ (IC : am_I) (LC : am_L) (IM : am_I) (LM : am_L), Rl al IC LC IM LM → am_JL x Q 1556 [some (.ref 1000020), some (.ref 500000), some (.ref 500001), some (.ref 500002), some (.int iv), none, none] [] al IC LC IM LM o nc ns) : am_JL x Q 309 [some (.ref 1000020), some (.ref 500000), some (.ref 500001), some (.ref 500002), some (.int iv), none, none] [] al IC LC IM LM o nc ns := by
  obtain ⟨r, IC', LC', IM', LM', e1, e2, hR2⟩ := hp al IC LC IM LM (xs (iv + (1 : Int32)).toNatClampNeg) hR
  refine l_aload_n hc dL_law_309 rfl ?_
  refine l_aload_n hc dL_law_310 rfl ?_
  refine l_iload hc dL_law_311 rfl ?_
  refine l_iconst (v := (1 : Int32)) hc dL_law_313 ci_1 ?_
  refine l_iadd hc dL_law_314 ?_
  refine l_sld hc hX dL_law_315 hin1 ?_
  refine l_callC (As := [.int (xs (iv + (1 : Int32)).toNatClampNeg)]) hc dL_law_316 (am_mem 563 kv_563 rfl) mX11_end (kC_0 _) clX11 rfl rfl (by decide) (by decide) (Nat.le_of_ble_eq_true rfl) hnc (qX11_end x.2.1 am_N 1900 (xs (iv + (1 : Int32)).toNatClampNeg) IC LC r IC' LC' e1) ?_
  refine l_aload_n hc dL_law_319 rfl ?_
  refine l_aload_n hc dL_law_320 rfl ?_
  refine l_iload hc dL_law_321 rfl ?_
  refine l_iconst (v := (1 : Int32)) hc dL_law_323 ci_1 ?_
  refine l_iadd hc dL_law_324 ?_
  refine l_sld hc hX dL_law_325 hin1 ?_
  refine l_callM (As := [.int (xs (iv + (1 : Int32)).toNatClampNeg)]) hc dL_law_326 (am_mem 1621 kv_1621 rfl) mX12_end kM_0 clX12 rfl rfl (by decide) (by decide) (Nat.le_of_ble_eq_true rfl) hnc (qX12_end x.2.1 am_N 1900 (xs (iv + (1 : Int32)).toNatClampNeg) IM LM r IM' LM' e2) ?_
  exact l_icmp_eq (tgt := 1556) hc dL_law_329 rfl (fun _ => kk _ _ _ _ hR2) (fun q => absurd rfl q)
set_option maxRecDepth 100000 in
set_option maxHeartbeats 4000000 in
theorem lc_fault {x : am_X} {Q : State → Prop} {L : Nat} {xs : Nat → Int32} {Rl : am_Rl} (hc : am_ok x cL_law yL_law 7 (some .boolean) 2048 601024 7293034) (hX : am_sc x L xs) (hp : pd_fault Rl) (iv : Int32) (hin1 : vp_in (iv + (1 : Int32)) L) (hin2 : vp_in (iv + (2 : Int32)) L) (hin3 : vp_in (iv + (3 : Int32)) L) (hin4 : vp_in (iv + (4 : Int32)) L) (hin5 : vp_in (iv + (5 : Int32)) L) (al : Bool) (IC : am_I) (LC : am_L) (IM : am_I) (LM : am_L) (o : Int64) (nc ns : Nat) (hnc : nc ≤ 601024 ∧ ns ≤ 7293034) (hR : Rl al IC LC IM LM) (kk : ∀ (IC : am_I) (LC : am_L) (IM : am_I) (LM : am_L), Rl al IC LC IM LM → am_JL x Q 1556 [some (.ref 1000020), some (.ref 500000), some (.ref 500001), some (.ref 500002), some (.int iv), none, none] [] al IC LC IM LM o nc ns) : am_JL x Q 334 [some (.ref 1000020), some (.ref 500000), some (.ref 500001), some (.ref 500002), some (.int iv), none, none] [] al IC LC IM LM o nc ns := by
  obtain ⟨r, IC', LC', IM', LM', e1, e2, hR2⟩ := hp al IC LC IM LM (xs (iv + (1 : Int32)).toNatClampNeg) hR
  refine l_aload_n hc dL_law_334 rfl ?_
  refine l_aload_n hc dL_law_335 rfl ?_
  refine l_iload hc dL_law_336 rfl ?_
  refine l_iconst (v := (1 : Int32)) hc dL_law_338 ci_1 ?_
  refine l_iadd hc dL_law_339 ?_
  refine l_sld hc hX dL_law_340 hin1 ?_
  refine l_callC (As := [.int (xs (iv + (1 : Int32)).toNatClampNeg)]) hc dL_law_341 (am_mem 567 kv_567 rfl) mX11_fault (kC_0 _) clX11 rfl rfl (by decide) (by decide) (Nat.le_of_ble_eq_true rfl) hnc (qX11_fault x.2.1 am_N 1900 (xs (iv + (1 : Int32)).toNatClampNeg) IC LC r IC' LC' e1) ?_
  refine l_aload_n hc dL_law_344 rfl ?_
  refine l_aload_n hc dL_law_345 rfl ?_
  refine l_iload hc dL_law_346 rfl ?_
  refine l_iconst (v := (1 : Int32)) hc dL_law_348 ci_1 ?_
  refine l_iadd hc dL_law_349 ?_
  refine l_sld hc hX dL_law_350 hin1 ?_
  refine l_callM (As := [.int (xs (iv + (1 : Int32)).toNatClampNeg)]) hc dL_law_351 (am_mem 1625 kv_1625 rfl) mX12_fault kM_0 clX12 rfl rfl (by decide) (by decide) (Nat.le_of_ble_eq_true rfl) hnc (qX12_fault x.2.1 am_N 1900 (xs (iv + (1 : Int32)).toNatClampNeg) IM LM r IM' LM' e2) ?_
  exact l_icmp_eq (tgt := 1556) hc dL_law_354 rfl (fun _ => kk _ _ _ _ hR2) (fun q => absurd rfl q)
set_option maxRecDepth 100000 in
set_option maxHeartbeats 4000000 in
theorem lc_text {x : am_X} {Q : State → Prop} {L : Nat} {xs : Nat → Int32} {Rl : am_Rl} (hc : am_ok x cL_law yL_law 7 (some .boolean) 2048 601024 7293034) (hX : am_sc x L xs) (hp : pd_text Rl) (iv : Int32) (hin1 : vp_in (iv + (1 : Int32)) L) (hin2 : vp_in (iv + (2 : Int32)) L) (hin3 : vp_in (iv + (3 : Int32)) L) (hin4 : vp_in (iv + (4 : Int32)) L) (hin5 : vp_in (iv + (5 : Int32)) L) (al : Bool) (IC : am_I) (LC : am_L) (IM : am_I) (LM : am_L) (o : Int64) (nc ns : Nat) (hnc : nc ≤ 601024 ∧ ns ≤ 7293034) (hR : Rl al IC LC IM LM) (kk : ∀ (IC : am_I) (LC : am_L) (IM : am_I) (LM : am_L), Rl al IC LC IM LM → am_JL x Q 1556 [some (.ref 1000020), some (.ref 500000), some (.ref 500001), some (.ref 500002), some (.int iv), none, none] [] al IC LC IM LM o nc ns) : am_JL x Q 359 [some (.ref 1000020), some (.ref 500000), some (.ref 500001), some (.ref 500002), some (.int iv), none, none] [] al IC LC IM LM o nc ns := by
  obtain ⟨r, IC', LC', IM', LM', e1, e2, hR2⟩ := hp al IC LC IM LM (xs (iv + (1 : Int32)).toNatClampNeg) hR
  refine l_aload_n hc dL_law_359 rfl ?_
  refine l_aload_n hc dL_law_360 rfl ?_
  refine l_iload hc dL_law_361 rfl ?_
  refine l_iconst (v := (1 : Int32)) hc dL_law_363 ci_1 ?_
  refine l_iadd hc dL_law_364 ?_
  refine l_sld hc hX dL_law_365 hin1 ?_
  refine l_callC (As := [.int (xs (iv + (1 : Int32)).toNatClampNeg)]) hc dL_law_366 (am_mem 798 kv_798 rfl) mX11_text (kC_0 _) clX11 rfl rfl (by decide) (by decide) (Nat.le_of_ble_eq_true rfl) hnc (qX11_text x.2.1 am_N 1900 (xs (iv + (1 : Int32)).toNatClampNeg) IC LC r IC' LC' e1) ?_
  refine l_aload_n hc dL_law_369 rfl ?_
  refine l_aload_n hc dL_law_370 rfl ?_
  refine l_iload hc dL_law_371 rfl ?_
  refine l_iconst (v := (1 : Int32)) hc dL_law_373 ci_1 ?_
  refine l_iadd hc dL_law_374 ?_
  refine l_sld hc hX dL_law_375 hin1 ?_
  refine l_callM (As := [.int (xs (iv + (1 : Int32)).toNatClampNeg)]) hc dL_law_376 (am_mem 1748 kv_1748 rfl) mX12_text kM_0 clX12 rfl rfl (by decide) (by decide) (Nat.le_of_ble_eq_true rfl) hnc (qX12_text x.2.1 am_N 1900 (xs (iv + (1 : Int32)).toNatClampNeg) IM LM r IM' LM' e2) ?_
  exact l_icmp_eq (tgt := 1556) hc dL_law_379 rfl (fun _ => kk _ _ _ _ hR2) (fun q => absurd rfl q)
set_option maxRecDepth 100000 in
set_option maxHeartbeats 4000000 in
theorem lc_orchard {x : am_X} {Q : State → Prop} {L : Nat} {xs : Nat → Int32} {Rl : am_Rl} (hc : am_ok x cL_law yL_law 7 (some .boolean) 2048 601024 7293034) (hX : am_sc x L xs) (hp : pd_orchard Rl) (iv : Int32) (hin1 : vp_in (iv + (1 : Int32)) L) (hin2 : vp_in (iv + (2 : Int32)) L) (hin3 : vp_in (iv + (3 : Int32)) L) (hin4 : vp_in (iv + (4 : Int32)) L) (hin5 : vp_in (iv + (5 : Int32)) L) (al : Bool) (IC : am_I) (LC : am_L) (IM : am_I) (LM : am_L) (o : Int64) (nc ns : Nat) (hnc : nc ≤ 601024 ∧ ns ≤ 7293034) (hR : Rl al IC LC IM LM) (kk : ∀ (IC : am_I) (LC : am_L) (IM : am_I) (LM : am_L), Rl al IC LC IM LM → am_JL x Q 1556 [some (.ref 1000020), some (.ref 500000), some (.ref 500001), some (.ref 500002), some (.int iv), none, none] [] al IC LC IM LM o nc ns) : am_JL x Q 452 [some (.ref 1000020), some (.ref 500000), some (.ref 500001), some (.ref 500002), some (.int iv), none, none] [] al IC LC IM LM o nc ns := by
  obtain ⟨r, IC', LC', IM', LM', e1, e2, hR2⟩ := hp al IC LC IM LM (xs (iv + (1 : Int32)).toNatClampNeg) (xs (iv + (2 : Int32)).toNatClampNeg) hR
  refine l_aload_n hc dL_law_452 rfl ?_
  refine l_aload_n hc dL_law_453 rfl ?_
  refine l_iload hc dL_law_454 rfl ?_
  refine l_iconst (v := (1 : Int32)) hc dL_law_456 ci_1 ?_
  refine l_iadd hc dL_law_457 ?_
  refine l_sld hc hX dL_law_458 hin1 ?_
  refine l_aload_n hc dL_law_459 rfl ?_
  refine l_iload hc dL_law_460 rfl ?_
  refine l_iconst (v := (2 : Int32)) hc dL_law_462 ci_2 ?_
  refine l_iadd hc dL_law_463 ?_
  refine l_sld hc hX dL_law_464 hin2 ?_
  refine l_callC (As := [.int (xs (iv + (1 : Int32)).toNatClampNeg), .int (xs (iv + (2 : Int32)).toNatClampNeg)]) hc dL_law_465 (am_mem 863 kv_863 rfl) mX11_orchard (kC_0 _) clX11 rfl rfl (by decide) (by decide) (Nat.le_of_ble_eq_true rfl) hnc (qX11_orchard x.2.1 am_N 1900 (xs (iv + (1 : Int32)).toNatClampNeg) (xs (iv + (2 : Int32)).toNatClampNeg) IC LC r IC' LC' e1) ?_
  refine l_aload_n hc dL_law_468 rfl ?_
  refine l_aload_n hc dL_law_469 rfl ?_
  refine l_iload hc dL_law_470 rfl ?_
  refine l_iconst (v := (1 : Int32)) hc dL_law_472 ci_1 ?_
  refine l_iadd hc dL_law_473 ?_
  refine l_sld hc hX dL_law_474 hin1 ?_
  refine l_aload_n hc dL_law_475 rfl ?_
  refine l_iload hc dL_law_476 rfl ?_
  refine l_iconst (v := (2 : Int32)) hc dL_law_478 ci_2 ?_
  refine l_iadd hc dL_law_479 ?_
  refine l_sld hc hX dL_law_480 hin2 ?_
  refine l_callM (As := [.int (xs (iv + (1 : Int32)).toNatClampNeg), .int (xs (iv + (2 : Int32)).toNatClampNeg)]) hc dL_law_481 (am_mem 1806 kv_1806 rfl) mX12_orchard kM_0 clX12 rfl rfl (by decide) (by decide) (Nat.le_of_ble_eq_true rfl) hnc (qX12_orchard x.2.1 am_N 1900 (xs (iv + (1 : Int32)).toNatClampNeg) (xs (iv + (2 : Int32)).toNatClampNeg) IM LM r IM' LM' e2) ?_
  exact l_icmp_eq (tgt := 1556) hc dL_law_484 rfl (fun _ => kk _ _ _ _ hR2) (fun q => absurd rfl q)
set_option maxRecDepth 100000 in
set_option maxHeartbeats 4000000 in
theorem lc_law {x : am_X} {Q : State → Prop} {L : Nat} {xs : Nat → Int32} {Rl : am_Rl} (hc : am_ok x cL_law yL_law 7 (some .boolean) 2048 601024 7293034) (hX : am_sc x L xs) (hp : pd_law Rl) (iv : Int32) (hin1 : vp_in (iv + (1 : Int32)) L) (hin2 : vp_in (iv + (2 : Int32)) L) (hin3 : vp_in (iv + (3 : Int32)) L) (hin4 : vp_in (iv + (4 : Int32)) L) (hin5 : vp_in (iv + (5 : Int32)) L) (al : Bool) (IC : am_I) (LC : am_L) (IM : am_I) (LM : am_L) (o : Int64) (nc ns : Nat) (hnc : nc ≤ 601024 ∧ ns ≤ 7293034) (hR : Rl al IC LC IM LM) (kk : ∀ (IC : am_I) (LC : am_L) (IM : am_I) (LM : am_L), Rl al IC LC IM LM → am_JL x Q 1556 [some (.ref 1000020), some (.ref 500000), some (.ref 500001), some (.ref 500002), some (.int iv), none, none] [] al IC LC IM LM o nc ns) : am_JL x Q 489 [some (.ref 1000020), some (.ref 500000), some (.ref 500001), some (.ref 500002), some (.int iv), none, none] [] al IC LC IM LM o nc ns := by
  obtain ⟨r, IC', LC', IM', LM', e1, e2, hR2⟩ := hp al IC LC IM LM (xs (iv + (1 : Int32)).toNatClampNeg) hR
  refine l_aload_n hc dL_law_489 rfl ?_
  refine l_aload_n hc dL_law_490 rfl ?_
  refine l_iload hc dL_law_491 rfl ?_
  refine l_iconst (v := (1 : Int32)) hc dL_law_493 ci_1 ?_
  refine l_iadd hc dL_law_494 ?_
  refine l_sld hc hX dL_law_495 hin1 ?_
  refine l_callC (As := [.int (xs (iv + (1 : Int32)).toNatClampNeg)]) hc dL_law_496 (am_mem 867 kv_867 rfl) mX11_law (kC_0 _) clX11 rfl rfl (by decide) (by decide) (Nat.le_of_ble_eq_true rfl) hnc (qX11_law x.2.1 am_N 1900 (xs (iv + (1 : Int32)).toNatClampNeg) IC LC r IC' LC' e1) ?_
  refine l_aload_n hc dL_law_499 rfl ?_
  refine l_aload_n hc dL_law_500 rfl ?_
  refine l_iload hc dL_law_501 rfl ?_
  refine l_iconst (v := (1 : Int32)) hc dL_law_503 ci_1 ?_
  refine l_iadd hc dL_law_504 ?_
  refine l_sld hc hX dL_law_505 hin1 ?_
  refine l_callM (As := [.int (xs (iv + (1 : Int32)).toNatClampNeg)]) hc dL_law_506 (am_mem 1810 kv_1810 rfl) mX12_law kM_0 clX12 rfl rfl (by decide) (by decide) (Nat.le_of_ble_eq_true rfl) hnc (qX12_law x.2.1 am_N 1900 (xs (iv + (1 : Int32)).toNatClampNeg) IM LM r IM' LM' e2) ?_
  exact l_icmp_eq (tgt := 1556) hc dL_law_509 rfl (fun _ => kk _ _ _ _ hR2) (fun q => absurd rfl q)
set_option maxRecDepth 100000 in
set_option maxHeartbeats 4000000 in
theorem lc_won {x : am_X} {Q : State → Prop} {L : Nat} {xs : Nat → Int32} {Rl : am_Rl} (hc : am_ok x cL_law yL_law 7 (some .boolean) 2048 601024 7293034) (hX : am_sc x L xs) (hp : pd_won Rl) (iv : Int32) (hin1 : vp_in (iv + (1 : Int32)) L) (hin2 : vp_in (iv + (2 : Int32)) L) (hin3 : vp_in (iv + (3 : Int32)) L) (hin4 : vp_in (iv + (4 : Int32)) L) (hin5 : vp_in (iv + (5 : Int32)) L) (al : Bool) (IC : am_I) (LC : am_L) (IM : am_I) (LM : am_L) (o : Int64) (nc ns : Nat) (hnc : nc ≤ 601024 ∧ ns ≤ 7293034) (hR : Rl al IC LC IM LM) (kk : ∀ (IC : am_I) (LC : am_L) (IM : am_I) (LM : am_L), Rl al IC LC IM LM → am_JL x Q 1556 [some (.ref 1000020), some (.ref 500000), some (.ref 500001), some (.ref 500002), some (.int iv), none, none] [] al IC LC IM LM o nc ns) : am_JL x Q 514 [some (.ref 1000020), some (.ref 500000), some (.ref 500001), some (.ref 500002), some (.int iv), none, none] [] al IC LC IM LM o nc ns := by
  obtain ⟨r, IC', LC', IM', LM', e1, e2, hR2⟩ := hp al IC LC IM LM hR
  refine l_aload_n hc dL_law_514 rfl ?_
  refine l_callC (As := []) hc dL_law_515 (am_mem 873 kv_873 rfl) mX11_won (kC_0 _) clX11 rfl rfl (by decide) (by decide) (Nat.le_of_ble_eq_true rfl) hnc (qX11_won x.2.1 am_N 1900 IC LC r IC' LC' e1) ?_
  refine l_aload_n hc dL_law_518 rfl ?_
  refine l_callM (As := []) hc dL_law_519 (am_mem 1814 kv_1814 rfl) mX12_won kM_0 clX12 rfl rfl (by decide) (by decide) (Nat.le_of_ble_eq_true rfl) hnc (qX12_won x.2.1 am_N 1900 IM LM r IM' LM' e2) ?_
  exact l_icmp_eq (tgt := 1556) hc dL_law_522 rfl (fun _ => kk _ _ _ _ hR2) (fun q => absurd rfl q)
set_option maxRecDepth 100000 in
set_option maxHeartbeats 4000000 in
theorem lc_go {x : am_X} {Q : State → Prop} {L : Nat} {xs : Nat → Int32} {Rl : am_Rl} (hc : am_ok x cL_law yL_law 7 (some .boolean) 2048 601024 7293034) (hX : am_sc x L xs) (hp : pd_go Rl) (iv : Int32) (hin1 : vp_in (iv + (1 : Int32)) L) (hin2 : vp_in (iv + (2 : Int32)) L) (hin3 : vp_in (iv + (3 : Int32)) L) (hin4 : vp_in (iv + (4 : Int32)) L) (hin5 : vp_in (iv + (5 : Int32)) L) (al : Bool) (IC : am_I) (LC : am_L) (IM : am_I) (LM : am_L) (o : Int64) (nc ns : Nat) (hnc : nc ≤ 601024 ∧ ns ≤ 7293034) (hR : Rl al IC LC IM LM) (kk : ∀ (IC : am_I) (LC : am_L) (IM : am_I) (LM : am_L), Rl al IC LC IM LM → am_JL x Q 1556 [some (.ref 1000020), some (.ref 500000), some (.ref 500001), some (.ref 500002), some (.int iv), none, none] [] al IC LC IM LM o nc ns) : am_JL x Q 527 [some (.ref 1000020), some (.ref 500000), some (.ref 500001), some (.ref 500002), some (.int iv), none, none] [] al IC LC IM LM o nc ns := by
  obtain ⟨r, IC', LC', IM', LM', e1, e2, hR2⟩ := hp al IC LC IM LM (xs (iv + (1 : Int32)).toNatClampNeg) hR
  refine l_aload_n hc dL_law_527 rfl ?_
  refine l_aload_n hc dL_law_528 rfl ?_
  refine l_iload hc dL_law_529 rfl ?_
  refine l_iconst (v := (1 : Int32)) hc dL_law_531 ci_1 ?_
  refine l_iadd hc dL_law_532 ?_
  refine l_sld hc hX dL_law_533 hin1 ?_
  refine l_callC (As := [.int (xs (iv + (1 : Int32)).toNatClampNeg)]) hc dL_law_534 (am_mem 891 kv_891 rfl) mX11_go (kC_0 _) clX11 rfl rfl (by decide) (by decide) (Nat.le_of_ble_eq_true rfl) hnc (qX11_go x.2.1 am_N 1900 (xs (iv + (1 : Int32)).toNatClampNeg) IC LC r IC' LC' e1) ?_
  refine l_aload_n hc dL_law_537 rfl ?_
  refine l_aload_n hc dL_law_538 rfl ?_
  refine l_iload hc dL_law_539 rfl ?_
  refine l_iconst (v := (1 : Int32)) hc dL_law_541 ci_1 ?_
  refine l_iadd hc dL_law_542 ?_
  refine l_sld hc hX dL_law_543 hin1 ?_
  refine l_callM (As := [.int (xs (iv + (1 : Int32)).toNatClampNeg)]) hc dL_law_544 (am_mem 1830 kv_1830 rfl) mX12_go kM_0 clX12 rfl rfl (by decide) (by decide) (Nat.le_of_ble_eq_true rfl) hnc (qX12_go x.2.1 am_N 1900 (xs (iv + (1 : Int32)).toNatClampNeg) IM LM r IM' LM' e2) ?_
  exact l_icmp_eq (tgt := 1556) hc dL_law_547 rfl (fun _ => kk _ _ _ _ hR2) (fun q => absurd rfl q)
set_option maxRecDepth 100000 in
set_option maxHeartbeats 4000000 in
theorem lc_stay {x : am_X} {Q : State → Prop} {L : Nat} {xs : Nat → Int32} {Rl : am_Rl} (hc : am_ok x cL_law yL_law 7 (some .boolean) 2048 601024 7293034) (hX : am_sc x L xs) (hp : pd_stay Rl) (iv : Int32) (hin1 : vp_in (iv + (1 : Int32)) L) (hin2 : vp_in (iv + (2 : Int32)) L) (hin3 : vp_in (iv + (3 : Int32)) L) (hin4 : vp_in (iv + (4 : Int32)) L) (hin5 : vp_in (iv + (5 : Int32)) L) (al : Bool) (IC : am_I) (LC : am_L) (IM : am_I) (LM : am_L) (o : Int64) (nc ns : Nat) (hnc : nc ≤ 601024 ∧ ns ≤ 7293034) (hR : Rl al IC LC IM LM) (kk : ∀ (IC : am_I) (LC : am_L) (IM : am_I) (LM : am_L), Rl al IC LC IM LM → am_JL x Q 1556 [some (.ref 1000020), some (.ref 500000), some (.ref 500001), some (.ref 500002), some (.int iv), none, none] [] al IC LC IM LM o nc ns) : am_JL x Q 552 [some (.ref 1000020), some (.ref 500000), some (.ref 500001), some (.ref 500002), some (.int iv), none, none] [] al IC LC IM LM o nc ns := by
  obtain ⟨r, IC', LC', IM', LM', e1, e2, hR2⟩ := hp al IC LC IM LM (xs (iv + (1 : Int32)).toNatClampNeg) hR
  refine l_aload_n hc dL_law_552 rfl ?_
  refine l_aload_n hc dL_law_553 rfl ?_
  refine l_iload hc dL_law_554 rfl ?_
  refine l_iconst (v := (1 : Int32)) hc dL_law_556 ci_1 ?_
  refine l_iadd hc dL_law_557 ?_
  refine l_sld hc hX dL_law_558 hin1 ?_
  refine l_callC (As := [.int (xs (iv + (1 : Int32)).toNatClampNeg)]) hc dL_law_559 (am_mem 958 kv_958 rfl) mX11_stay (kC_0 _) clX11 rfl rfl (by decide) (by decide) (Nat.le_of_ble_eq_true rfl) hnc (qX11_stay x.2.1 am_N 1900 (xs (iv + (1 : Int32)).toNatClampNeg) IC LC r IC' LC' e1) ?_
  refine l_aload_n hc dL_law_562 rfl ?_
  refine l_aload_n hc dL_law_563 rfl ?_
  refine l_iload hc dL_law_564 rfl ?_
  refine l_iconst (v := (1 : Int32)) hc dL_law_566 ci_1 ?_
  refine l_iadd hc dL_law_567 ?_
  refine l_sld hc hX dL_law_568 hin1 ?_
  refine l_callM (As := [.int (xs (iv + (1 : Int32)).toNatClampNeg)]) hc dL_law_569 (am_mem 1858 kv_1858 rfl) mX12_stay kM_0 clX12 rfl rfl (by decide) (by decide) (Nat.le_of_ble_eq_true rfl) hnc (qX12_stay x.2.1 am_N 1900 (xs (iv + (1 : Int32)).toNatClampNeg) IM LM r IM' LM' e2) ?_
  exact l_icmp_eq (tgt := 1556) hc dL_law_572 rfl (fun _ => kk _ _ _ _ hR2) (fun q => absurd rfl q)
set_option maxRecDepth 100000 in
set_option maxHeartbeats 4000000 in
theorem lc_press {x : am_X} {Q : State → Prop} {L : Nat} {xs : Nat → Int32} {Rl : am_Rl} (hc : am_ok x cL_law yL_law 7 (some .boolean) 2048 601024 7293034) (hX : am_sc x L xs) (hp : pd_press Rl) (iv : Int32) (hin1 : vp_in (iv + (1 : Int32)) L) (hin2 : vp_in (iv + (2 : Int32)) L) (hin3 : vp_in (iv + (3 : Int32)) L) (hin4 : vp_in (iv + (4 : Int32)) L) (hin5 : vp_in (iv + (5 : Int32)) L) (al : Bool) (IC : am_I) (LC : am_L) (IM : am_I) (LM : am_L) (o : Int64) (nc ns : Nat) (hnc : nc ≤ 601024 ∧ ns ≤ 7293034) (hR : Rl al IC LC IM LM) (kk : ∀ (IC : am_I) (LC : am_L) (IM : am_I) (LM : am_L), Rl al IC LC IM LM → am_JL x Q 1556 [some (.ref 1000020), some (.ref 500000), some (.ref 500001), some (.ref 500002), some (.int iv), none, none] [] al IC LC IM LM o nc ns) : am_JL x Q 577 [some (.ref 1000020), some (.ref 500000), some (.ref 500001), some (.ref 500002), some (.int iv), none, none] [] al IC LC IM LM o nc ns := by
  obtain ⟨r, IC', LC', IM', LM', e1, e2, hR2⟩ := hp al IC LC IM LM (xs (iv + (1 : Int32)).toNatClampNeg) (xs (iv + (2 : Int32)).toNatClampNeg) hR
  refine l_aload_n hc dL_law_577 rfl ?_
  refine l_aload_n hc dL_law_578 rfl ?_
  refine l_iload hc dL_law_579 rfl ?_
  refine l_iconst (v := (1 : Int32)) hc dL_law_581 ci_1 ?_
  refine l_iadd hc dL_law_582 ?_
  refine l_sld hc hX dL_law_583 hin1 ?_
  refine l_aload_n hc dL_law_584 rfl ?_
  refine l_iload hc dL_law_585 rfl ?_
  refine l_iconst (v := (2 : Int32)) hc dL_law_587 ci_2 ?_
  refine l_iadd hc dL_law_588 ?_
  refine l_sld hc hX dL_law_589 hin2 ?_
  refine l_callC (As := [.int (xs (iv + (1 : Int32)).toNatClampNeg), .int (xs (iv + (2 : Int32)).toNatClampNeg)]) hc dL_law_590 (am_mem 974 kv_974 rfl) mX11_press (kC_0 _) clX11 rfl rfl (by decide) (by decide) (Nat.le_of_ble_eq_true rfl) hnc (qX11_press x.2.1 am_N 1900 (xs (iv + (1 : Int32)).toNatClampNeg) (xs (iv + (2 : Int32)).toNatClampNeg) IC LC r IC' LC' e1) ?_
  refine l_aload_n hc dL_law_593 rfl ?_
  refine l_aload_n hc dL_law_594 rfl ?_
  refine l_iload hc dL_law_595 rfl ?_
  refine l_iconst (v := (1 : Int32)) hc dL_law_597 ci_1 ?_
  refine l_iadd hc dL_law_598 ?_
  refine l_sld hc hX dL_law_599 hin1 ?_
  refine l_aload_n hc dL_law_600 rfl ?_
  refine l_iload hc dL_law_601 rfl ?_
  refine l_iconst (v := (2 : Int32)) hc dL_law_603 ci_2 ?_
  refine l_iadd hc dL_law_604 ?_
  refine l_sld hc hX dL_law_605 hin2 ?_
  refine l_callM (As := [.int (xs (iv + (1 : Int32)).toNatClampNeg), .int (xs (iv + (2 : Int32)).toNatClampNeg)]) hc dL_law_606 (am_mem 1870 kv_1870 rfl) mX12_press kM_0 clX12 rfl rfl (by decide) (by decide) (Nat.le_of_ble_eq_true rfl) hnc (qX12_press x.2.1 am_N 1900 (xs (iv + (1 : Int32)).toNatClampNeg) (xs (iv + (2 : Int32)).toNatClampNeg) IM LM r IM' LM' e2) ?_
  exact l_icmp_eq (tgt := 1556) hc dL_law_609 rfl (fun _ => kk _ _ _ _ hR2) (fun q => absurd rfl q)
set_option maxRecDepth 100000 in
set_option maxHeartbeats 4000000 in
theorem lc_evening {x : am_X} {Q : State → Prop} {L : Nat} {xs : Nat → Int32} {Rl : am_Rl} (hc : am_ok x cL_law yL_law 7 (some .boolean) 2048 601024 7293034) (hX : am_sc x L xs) (hp : pd_evening Rl) (iv : Int32) (hin1 : vp_in (iv + (1 : Int32)) L) (hin2 : vp_in (iv + (2 : Int32)) L) (hin3 : vp_in (iv + (3 : Int32)) L) (hin4 : vp_in (iv + (4 : Int32)) L) (hin5 : vp_in (iv + (5 : Int32)) L) (al : Bool) (IC : am_I) (LC : am_L) (IM : am_I) (LM : am_L) (o : Int64) (nc ns : Nat) (hnc : nc ≤ 601024 ∧ ns ≤ 7293034) (hR : Rl al IC LC IM LM) (kk : ∀ (IC : am_I) (LC : am_L) (IM : am_I) (LM : am_L), Rl al IC LC IM LM → am_JL x Q 1556 [some (.ref 1000020), some (.ref 500000), some (.ref 500001), some (.ref 500002), some (.int iv), none, none] [] al IC LC IM LM o nc ns) : am_JL x Q 614 [some (.ref 1000020), some (.ref 500000), some (.ref 500001), some (.ref 500002), some (.int iv), none, none] [] al IC LC IM LM o nc ns := by
  obtain ⟨r, IC', LC', IM', LM', e1, e2, hR2⟩ := hp al IC LC IM LM hR
  refine l_aload_n hc dL_law_614 rfl ?_
  refine l_callC (As := []) hc dL_law_615 (am_mem 989 kv_989 rfl) mX11_evening (kC_0 _) clX11 rfl rfl (by decide) (by decide) (Nat.le_of_ble_eq_true rfl) hnc (qX11_evening x.2.1 am_N 1900 IC LC r IC' LC' e1) ?_
  refine l_aload_n hc dL_law_618 rfl ?_
  refine l_callM (As := []) hc dL_law_619 (am_mem 1883 kv_1883 rfl) mX12_evening kM_0 clX12 rfl rfl (by decide) (by decide) (Nat.le_of_ble_eq_true rfl) hnc (qX12_evening x.2.1 am_N 1900 IM LM r IM' LM' e2) ?_
  exact l_icmp_eq (tgt := 1556) hc dL_law_622 rfl (fun _ => kk _ _ _ _ hR2) (fun q => absurd rfl q)
set_option maxRecDepth 100000 in
set_option maxHeartbeats 4000000 in
theorem lc_march {x : am_X} {Q : State → Prop} {L : Nat} {xs : Nat → Int32} {Rl : am_Rl} (hc : am_ok x cL_law yL_law 7 (some .boolean) 2048 601024 7293034) (hX : am_sc x L xs) (hp : pd_march Rl) (iv : Int32) (hin1 : vp_in (iv + (1 : Int32)) L) (hin2 : vp_in (iv + (2 : Int32)) L) (hin3 : vp_in (iv + (3 : Int32)) L) (hin4 : vp_in (iv + (4 : Int32)) L) (hin5 : vp_in (iv + (5 : Int32)) L) (al : Bool) (IC : am_I) (LC : am_L) (IM : am_I) (LM : am_L) (o : Int64) (nc ns : Nat) (hnc : nc ≤ 601024 ∧ ns ≤ 7293034) (hR : Rl al IC LC IM LM) (kk : ∀ (IC : am_I) (LC : am_L) (IM : am_I) (LM : am_L), Rl al IC LC IM LM → am_JL x Q 1556 [some (.ref 1000020), some (.ref 500000), some (.ref 500001), some (.ref 500002), some (.int iv), none, none] [] al IC LC IM LM o nc ns) : am_JL x Q 627 [some (.ref 1000020), some (.ref 500000), some (.ref 500001), some (.ref 500002), some (.int iv), none, none] [] al IC LC IM LM o nc ns := by
  obtain ⟨r, IC', LC', IM', LM', e1, e2, hR2⟩ := hp al IC LC IM LM (xs (iv + (1 : Int32)).toNatClampNeg) (((xs (iv + (2 : Int32)).toNatClampNeg).toInt64 <<< ((32 : Int32).toInt64 &&& 63)) ||| ((xs (iv + (3 : Int32)).toNatClampNeg).toInt64 &&& (4294967295 : Int64))) hR
  refine l_aload_n hc dL_law_627 rfl ?_
  refine l_aload_n hc dL_law_628 rfl ?_
  refine l_iload hc dL_law_629 rfl ?_
  refine l_iconst (v := (1 : Int32)) hc dL_law_631 ci_1 ?_
  refine l_iadd hc dL_law_632 ?_
  refine l_sld hc hX dL_law_633 hin1 ?_
  refine l_aload_n hc dL_law_634 rfl ?_
  refine l_iload hc dL_law_635 rfl ?_
  refine l_iconst (v := (2 : Int32)) hc dL_law_637 ci_2 ?_
  refine l_iadd hc dL_law_638 ?_
  refine l_sld hc hX dL_law_639 hin2 ?_
  refine l_i2l hc dL_law_640 ?_
  refine l_bipush (v := (32 : Int32)) hc dL_law_641 cb_32 ?_
  refine l_lshl hc dL_law_643 ?_
  refine l_aload_n hc dL_law_644 rfl ?_
  refine l_iload hc dL_law_645 rfl ?_
  refine l_iconst (v := (3 : Int32)) hc dL_law_647 ci_3 ?_
  refine l_iadd hc dL_law_648 ?_
  refine l_sld hc hX dL_law_649 hin3 ?_
  refine l_i2l hc dL_law_650 ?_
  refine l_ldc2 (v := (4294967295 : Int64)) hc dL_law_651 (am_mem 2119 kv_2119 rfl) ?_
  refine l_land hc dL_law_654 ?_
  refine l_lor hc dL_law_655 ?_
  refine l_callC (As := [.int (xs (iv + (1 : Int32)).toNatClampNeg), .long (((xs (iv + (2 : Int32)).toNatClampNeg).toInt64 <<< ((32 : Int32).toInt64 &&& 63)) ||| ((xs (iv + (3 : Int32)).toNatClampNeg).toInt64 &&& (4294967295 : Int64)))]) hc dL_law_656 (am_mem 1004 kv_1004 rfl) mX11_march (kC_0 _) clX11 rfl rfl (by decide) (by decide) (Nat.le_of_ble_eq_true rfl) hnc (qX11_march x.2.1 am_N 1900 (xs (iv + (1 : Int32)).toNatClampNeg) (((xs (iv + (2 : Int32)).toNatClampNeg).toInt64 <<< ((32 : Int32).toInt64 &&& 63)) ||| ((xs (iv + (3 : Int32)).toNatClampNeg).toInt64 &&& (4294967295 : Int64))) IC LC r IC' LC' e1) ?_
  refine l_aload_n hc dL_law_659 rfl ?_
  refine l_aload_n hc dL_law_660 rfl ?_
  refine l_iload hc dL_law_661 rfl ?_
  refine l_iconst (v := (1 : Int32)) hc dL_law_663 ci_1 ?_
  refine l_iadd hc dL_law_664 ?_
  refine l_sld hc hX dL_law_665 hin1 ?_
  refine l_aload_n hc dL_law_666 rfl ?_
  refine l_iload hc dL_law_667 rfl ?_
  refine l_iconst (v := (2 : Int32)) hc dL_law_669 ci_2 ?_
  refine l_iadd hc dL_law_670 ?_
  refine l_sld hc hX dL_law_671 hin2 ?_
  refine l_i2l hc dL_law_672 ?_
  refine l_bipush (v := (32 : Int32)) hc dL_law_673 cb_32 ?_
  refine l_lshl hc dL_law_675 ?_
  refine l_aload_n hc dL_law_676 rfl ?_
  refine l_iload hc dL_law_677 rfl ?_
  refine l_iconst (v := (3 : Int32)) hc dL_law_679 ci_3 ?_
  refine l_iadd hc dL_law_680 ?_
  refine l_sld hc hX dL_law_681 hin3 ?_
  refine l_i2l hc dL_law_682 ?_
  refine l_ldc2 (v := (4294967295 : Int64)) hc dL_law_683 (am_mem 2119 kv_2119 rfl) ?_
  refine l_land hc dL_law_686 ?_
  refine l_lor hc dL_law_687 ?_
  refine l_callM (As := [.int (xs (iv + (1 : Int32)).toNatClampNeg), .long (((xs (iv + (2 : Int32)).toNatClampNeg).toInt64 <<< ((32 : Int32).toInt64 &&& 63)) ||| ((xs (iv + (3 : Int32)).toNatClampNeg).toInt64 &&& (4294967295 : Int64)))]) hc dL_law_688 (am_mem 1891 kv_1891 rfl) mX12_march kM_0 clX12 rfl rfl (by decide) (by decide) (Nat.le_of_ble_eq_true rfl) hnc (qX12_march x.2.1 am_N 1900 (xs (iv + (1 : Int32)).toNatClampNeg) (((xs (iv + (2 : Int32)).toNatClampNeg).toInt64 <<< ((32 : Int32).toInt64 &&& 63)) ||| ((xs (iv + (3 : Int32)).toNatClampNeg).toInt64 &&& (4294967295 : Int64))) IM LM r IM' LM' e2) ?_
  exact l_icmp_eq (tgt := 1556) hc dL_law_691 rfl (fun _ => kk _ _ _ _ hR2) (fun q => absurd rfl q)
set_option maxRecDepth 100000 in
set_option maxHeartbeats 4000000 in
theorem lc_undo {x : am_X} {Q : State → Prop} {L : Nat} {xs : Nat → Int32} {Rl : am_Rl} (hc : am_ok x cL_law yL_law 7 (some .boolean) 2048 601024 7293034) (hX : am_sc x L xs) (hp : pd_undo Rl) (iv : Int32) (hin1 : vp_in (iv + (1 : Int32)) L) (hin2 : vp_in (iv + (2 : Int32)) L) (hin3 : vp_in (iv + (3 : Int32)) L) (hin4 : vp_in (iv + (4 : Int32)) L) (hin5 : vp_in (iv + (5 : Int32)) L) (al : Bool) (IC : am_I) (LC : am_L) (IM : am_I) (LM : am_L) (o : Int64) (nc ns : Nat) (hnc : nc ≤ 601024 ∧ ns ≤ 7293034) (hR : Rl al IC LC IM LM) (kk : ∀ (IC : am_I) (LC : am_L) (IM : am_I) (LM : am_L), Rl al IC LC IM LM → am_JL x Q 1556 [some (.ref 1000020), some (.ref 500000), some (.ref 500001), some (.ref 500002), some (.int iv), none, none] [] al IC LC IM LM o nc ns) : am_JL x Q 696 [some (.ref 1000020), some (.ref 500000), some (.ref 500001), some (.ref 500002), some (.int iv), none, none] [] al IC LC IM LM o nc ns := by
  obtain ⟨r, IC', LC', IM', LM', e1, e2, hR2⟩ := hp al IC LC IM LM hR
  refine l_aload_n hc dL_law_696 rfl ?_
  refine l_callC (As := []) hc dL_law_697 (am_mem 1023 kv_1023 rfl) mX11_undo (kC_0 _) clX11 rfl rfl (by decide) (by decide) (Nat.le_of_ble_eq_true rfl) hnc (qX11_undo x.2.1 am_N 1900 IC LC r IC' LC' e1) ?_
  refine l_aload_n hc dL_law_700 rfl ?_
  refine l_callM (As := []) hc dL_law_701 (am_mem 1909 kv_1909 rfl) mX12_undo kM_0 clX12 rfl rfl (by decide) (by decide) (Nat.le_of_ble_eq_true rfl) hnc (qX12_undo x.2.1 am_N 1900 IM LM r IM' LM' e2) ?_
  exact l_icmp_eq (tgt := 1556) hc dL_law_704 rfl (fun _ => kk _ _ _ _ hR2) (fun q => absurd rfl q)
set_option maxRecDepth 100000 in
set_option maxHeartbeats 4000000 in
theorem lc_log {x : am_X} {Q : State → Prop} {L : Nat} {xs : Nat → Int32} {Rl : am_Rl} (hc : am_ok x cL_law yL_law 7 (some .boolean) 2048 601024 7293034) (hX : am_sc x L xs) (hp : pd_log Rl) (iv : Int32) (hin1 : vp_in (iv + (1 : Int32)) L) (hin2 : vp_in (iv + (2 : Int32)) L) (hin3 : vp_in (iv + (3 : Int32)) L) (hin4 : vp_in (iv + (4 : Int32)) L) (hin5 : vp_in (iv + (5 : Int32)) L) (al : Bool) (IC : am_I) (LC : am_L) (IM : am_I) (LM : am_L) (o : Int64) (nc ns : Nat) (hnc : nc ≤ 601024 ∧ ns ≤ 7293034) (hR : Rl al IC LC IM LM) (kk : ∀ (IC : am_I) (LC : am_L) (IM : am_I) (LM : am_L), Rl al IC LC IM LM → am_JL x Q 1556 [some (.ref 1000020), some (.ref 500000), some (.ref 500001), some (.ref 500002), some (.int iv), none, none] [] al IC LC IM LM o nc ns) : am_JL x Q 709 [some (.ref 1000020), some (.ref 500000), some (.ref 500001), some (.ref 500002), some (.int iv), none, none] [] al IC LC IM LM o nc ns := by
  obtain ⟨r, IC', LC', IM', LM', e1, e2, hR2⟩ := hp al IC LC IM LM (xs (iv + (1 : Int32)).toNatClampNeg) (xs (iv + (2 : Int32)).toNatClampNeg) hR
  refine l_aload_n hc dL_law_709 rfl ?_
  refine l_aload_n hc dL_law_710 rfl ?_
  refine l_iload hc dL_law_711 rfl ?_
  refine l_iconst (v := (1 : Int32)) hc dL_law_713 ci_1 ?_
  refine l_iadd hc dL_law_714 ?_
  refine l_sld hc hX dL_law_715 hin1 ?_
  refine l_aload_n hc dL_law_716 rfl ?_
  refine l_iload hc dL_law_717 rfl ?_
  refine l_iconst (v := (2 : Int32)) hc dL_law_719 ci_2 ?_
  refine l_iadd hc dL_law_720 ?_
  refine l_sld hc hX dL_law_721 hin2 ?_
  refine l_callC (As := [.int (xs (iv + (1 : Int32)).toNatClampNeg), .int (xs (iv + (2 : Int32)).toNatClampNeg)]) hc dL_law_722 (am_mem 1035 kv_1035 rfl) mX11_log (kC_0 _) clX11 rfl rfl (by decide) (by decide) (Nat.le_of_ble_eq_true rfl) hnc (qX11_log x.2.1 am_N 1900 (xs (iv + (1 : Int32)).toNatClampNeg) (xs (iv + (2 : Int32)).toNatClampNeg) IC LC r IC' LC' e1) ?_
  refine l_aload_n hc dL_law_725 rfl ?_
  refine l_aload_n hc dL_law_726 rfl ?_
  refine l_iload hc dL_law_727 rfl ?_
  refine l_iconst (v := (1 : Int32)) hc dL_law_729 ci_1 ?_
  refine l_iadd hc dL_law_730 ?_
  refine l_sld hc hX dL_law_731 hin1 ?_
  refine l_aload_n hc dL_law_732 rfl ?_
  refine l_iload hc dL_law_733 rfl ?_
  refine l_iconst (v := (2 : Int32)) hc dL_law_735 ci_2 ?_
  refine l_iadd hc dL_law_736 ?_
  refine l_sld hc hX dL_law_737 hin2 ?_
  refine l_callM (As := [.int (xs (iv + (1 : Int32)).toNatClampNeg), .int (xs (iv + (2 : Int32)).toNatClampNeg)]) hc dL_law_738 (am_mem 1913 kv_1913 rfl) mX12_log kM_0 clX12 rfl rfl (by decide) (by decide) (Nat.le_of_ble_eq_true rfl) hnc (qX12_log x.2.1 am_N 1900 (xs (iv + (1 : Int32)).toNatClampNeg) (xs (iv + (2 : Int32)).toNatClampNeg) IM LM r IM' LM' e2) ?_
  exact l_icmp_eq (tgt := 1556) hc dL_law_741 rfl (fun _ => kk _ _ _ _ hR2) (fun q => absurd rfl q)
set_option maxRecDepth 100000 in
set_option maxHeartbeats 4000000 in
theorem lc_escorts {x : am_X} {Q : State → Prop} {L : Nat} {xs : Nat → Int32} {Rl : am_Rl} (hc : am_ok x cL_law yL_law 7 (some .boolean) 2048 601024 7293034) (hX : am_sc x L xs) (hp : pd_escorts Rl) (iv : Int32) (hin1 : vp_in (iv + (1 : Int32)) L) (hin2 : vp_in (iv + (2 : Int32)) L) (hin3 : vp_in (iv + (3 : Int32)) L) (hin4 : vp_in (iv + (4 : Int32)) L) (hin5 : vp_in (iv + (5 : Int32)) L) (al : Bool) (IC : am_I) (LC : am_L) (IM : am_I) (LM : am_L) (o : Int64) (nc ns : Nat) (hnc : nc ≤ 601024 ∧ ns ≤ 7293034) (hR : Rl al IC LC IM LM) (kk : ∀ (IC : am_I) (LC : am_L) (IM : am_I) (LM : am_L), Rl al IC LC IM LM → am_JL x Q 1556 [some (.ref 1000020), some (.ref 500000), some (.ref 500001), some (.ref 500002), some (.int iv), none, none] [] al IC LC IM LM o nc ns) : am_JL x Q 820 [some (.ref 1000020), some (.ref 500000), some (.ref 500001), some (.ref 500002), some (.int iv), none, none] [] al IC LC IM LM o nc ns := by
  obtain ⟨r, IC', LC', IM', LM', e1, e2, hR2⟩ := hp al IC LC IM LM (xs (iv + (1 : Int32)).toNatClampNeg) (xs (iv + (2 : Int32)).toNatClampNeg) hR
  refine l_aload_n hc dL_law_820 rfl ?_
  refine l_aload_n hc dL_law_821 rfl ?_
  refine l_iload hc dL_law_822 rfl ?_
  refine l_iconst (v := (1 : Int32)) hc dL_law_824 ci_1 ?_
  refine l_iadd hc dL_law_825 ?_
  refine l_sld hc hX dL_law_826 hin1 ?_
  refine l_aload_n hc dL_law_827 rfl ?_
  refine l_iload hc dL_law_828 rfl ?_
  refine l_iconst (v := (2 : Int32)) hc dL_law_830 ci_2 ?_
  refine l_iadd hc dL_law_831 ?_
  refine l_sld hc hX dL_law_832 hin2 ?_
  refine l_callC (As := [.int (xs (iv + (1 : Int32)).toNatClampNeg), .int (xs (iv + (2 : Int32)).toNatClampNeg)]) hc dL_law_833 (am_mem 1168 kv_1168 rfl) mX11_escorts (kC_0 _) clX11 rfl rfl (by decide) (by decide) (Nat.le_of_ble_eq_true rfl) hnc (qX11_escorts x.2.1 am_N 1900 (xs (iv + (1 : Int32)).toNatClampNeg) (xs (iv + (2 : Int32)).toNatClampNeg) IC LC r IC' LC' e1) ?_
  refine l_aload_n hc dL_law_836 rfl ?_
  refine l_aload_n hc dL_law_837 rfl ?_
  refine l_iload hc dL_law_838 rfl ?_
  refine l_iconst (v := (1 : Int32)) hc dL_law_840 ci_1 ?_
  refine l_iadd hc dL_law_841 ?_
  refine l_sld hc hX dL_law_842 hin1 ?_
  refine l_aload_n hc dL_law_843 rfl ?_
  refine l_iload hc dL_law_844 rfl ?_
  refine l_iconst (v := (2 : Int32)) hc dL_law_846 ci_2 ?_
  refine l_iadd hc dL_law_847 ?_
  refine l_sld hc hX dL_law_848 hin2 ?_
  refine l_callM (As := [.int (xs (iv + (1 : Int32)).toNatClampNeg), .int (xs (iv + (2 : Int32)).toNatClampNeg)]) hc dL_law_849 (am_mem 1969 kv_1969 rfl) mX12_escorts kM_0 clX12 rfl rfl (by decide) (by decide) (Nat.le_of_ble_eq_true rfl) hnc (qX12_escorts x.2.1 am_N 1900 (xs (iv + (1 : Int32)).toNatClampNeg) (xs (iv + (2 : Int32)).toNatClampNeg) IM LM r IM' LM' e2) ?_
  exact l_icmp_eq (tgt := 1556) hc dL_law_852 rfl (fun _ => kk _ _ _ _ hR2) (fun q => absurd rfl q)
set_option maxRecDepth 100000 in
set_option maxHeartbeats 4000000 in
theorem lc_loophole {x : am_X} {Q : State → Prop} {L : Nat} {xs : Nat → Int32} {Rl : am_Rl} (hc : am_ok x cL_law yL_law 7 (some .boolean) 2048 601024 7293034) (hX : am_sc x L xs) (hp : pd_loophole Rl) (iv : Int32) (hin1 : vp_in (iv + (1 : Int32)) L) (hin2 : vp_in (iv + (2 : Int32)) L) (hin3 : vp_in (iv + (3 : Int32)) L) (hin4 : vp_in (iv + (4 : Int32)) L) (hin5 : vp_in (iv + (5 : Int32)) L) (al : Bool) (IC : am_I) (LC : am_L) (IM : am_I) (LM : am_L) (o : Int64) (nc ns : Nat) (hnc : nc ≤ 601024 ∧ ns ≤ 7293034) (hR : Rl al IC LC IM LM) (kk : ∀ (IC : am_I) (LC : am_L) (IM : am_I) (LM : am_L), Rl al IC LC IM LM → am_JL x Q 1556 [some (.ref 1000020), some (.ref 500000), some (.ref 500001), some (.ref 500002), some (.int iv), none, none] [] al IC LC IM LM o nc ns) : am_JL x Q 857 [some (.ref 1000020), some (.ref 500000), some (.ref 500001), some (.ref 500002), some (.int iv), none, none] [] al IC LC IM LM o nc ns := by
  obtain ⟨r, IC', LC', IM', LM', e1, e2, hR2⟩ := hp al IC LC IM LM (xs (iv + (1 : Int32)).toNatClampNeg) hR
  refine l_aload_n hc dL_law_857 rfl ?_
  refine l_aload_n hc dL_law_858 rfl ?_
  refine l_iload hc dL_law_859 rfl ?_
  refine l_iconst (v := (1 : Int32)) hc dL_law_861 ci_1 ?_
  refine l_iadd hc dL_law_862 ?_
  refine l_sld hc hX dL_law_863 hin1 ?_
  refine l_callC (As := [.int (xs (iv + (1 : Int32)).toNatClampNeg)]) hc dL_law_864 (am_mem 1205 kv_1205 rfl) mX11_loophole (kC_0 _) clX11 rfl rfl (by decide) (by decide) (Nat.le_of_ble_eq_true rfl) hnc (qX11_loophole x.2.1 am_N 1900 (xs (iv + (1 : Int32)).toNatClampNeg) IC LC r IC' LC' e1) ?_
  refine l_aload_n hc dL_law_867 rfl ?_
  refine l_aload_n hc dL_law_868 rfl ?_
  refine l_iload hc dL_law_869 rfl ?_
  refine l_iconst (v := (1 : Int32)) hc dL_law_871 ci_1 ?_
  refine l_iadd hc dL_law_872 ?_
  refine l_sld hc hX dL_law_873 hin1 ?_
  refine l_callM (As := [.int (xs (iv + (1 : Int32)).toNatClampNeg)]) hc dL_law_874 (am_mem 1986 kv_1986 rfl) mX12_loophole kM_0 clX12 rfl rfl (by decide) (by decide) (Nat.le_of_ble_eq_true rfl) hnc (qX12_loophole x.2.1 am_N 1900 (xs (iv + (1 : Int32)).toNatClampNeg) IM LM r IM' LM' e2) ?_
  exact l_icmp_eq (tgt := 1556) hc dL_law_877 rfl (fun _ => kk _ _ _ _ hR2) (fun q => absurd rfl q)
set_option maxRecDepth 100000 in
set_option maxHeartbeats 4000000 in
theorem lc_closed {x : am_X} {Q : State → Prop} {L : Nat} {xs : Nat → Int32} {Rl : am_Rl} (hc : am_ok x cL_law yL_law 7 (some .boolean) 2048 601024 7293034) (hX : am_sc x L xs) (hp : pd_closed Rl) (iv : Int32) (hin1 : vp_in (iv + (1 : Int32)) L) (hin2 : vp_in (iv + (2 : Int32)) L) (hin3 : vp_in (iv + (3 : Int32)) L) (hin4 : vp_in (iv + (4 : Int32)) L) (hin5 : vp_in (iv + (5 : Int32)) L) (al : Bool) (IC : am_I) (LC : am_L) (IM : am_I) (LM : am_L) (o : Int64) (nc ns : Nat) (hnc : nc ≤ 601024 ∧ ns ≤ 7293034) (hR : Rl al IC LC IM LM) (kk : ∀ (IC : am_I) (LC : am_L) (IM : am_I) (LM : am_L), Rl al IC LC IM LM → am_JL x Q 1556 [some (.ref 1000020), some (.ref 500000), some (.ref 500001), some (.ref 500002), some (.int iv), none, none] [] al IC LC IM LM o nc ns) : am_JL x Q 882 [some (.ref 1000020), some (.ref 500000), some (.ref 500001), some (.ref 500002), some (.int iv), none, none] [] al IC LC IM LM o nc ns := by
  obtain ⟨r, IC', LC', IM', LM', e1, e2, hR2⟩ := hp al IC LC IM LM hR
  refine l_aload_n hc dL_law_882 rfl ?_
  refine l_callC (As := []) hc dL_law_883 (am_mem 1214 kv_1214 rfl) mX11_closed (kC_0 _) clX11 rfl rfl (by decide) (by decide) (Nat.le_of_ble_eq_true rfl) hnc (qX11_closed x.2.1 am_N 1900 IC LC r IC' LC' e1) ?_
  refine l_aload_n hc dL_law_886 rfl ?_
  refine l_callM (As := []) hc dL_law_887 (am_mem 1994 kv_1994 rfl) mX12_closed kM_0 clX12 rfl rfl (by decide) (by decide) (Nat.le_of_ble_eq_true rfl) hnc (qX12_closed x.2.1 am_N 1900 IM LM r IM' LM' e2) ?_
  exact l_icmp_eq (tgt := 1556) hc dL_law_890 rfl (fun _ => kk _ _ _ _ hR2) (fun q => absurd rfl q)
set_option maxRecDepth 100000 in
set_option maxHeartbeats 4000000 in
theorem lc_reads {x : am_X} {Q : State → Prop} {L : Nat} {xs : Nat → Int32} {Rl : am_Rl} (hc : am_ok x cL_law yL_law 7 (some .boolean) 2048 601024 7293034) (hX : am_sc x L xs) (hp : pd_reads Rl) (iv : Int32) (hin1 : vp_in (iv + (1 : Int32)) L) (hin2 : vp_in (iv + (2 : Int32)) L) (hin3 : vp_in (iv + (3 : Int32)) L) (hin4 : vp_in (iv + (4 : Int32)) L) (hin5 : vp_in (iv + (5 : Int32)) L) (al : Bool) (IC : am_I) (LC : am_L) (IM : am_I) (LM : am_L) (o : Int64) (nc ns : Nat) (hnc : nc ≤ 601024 ∧ ns ≤ 7293034) (hR : Rl al IC LC IM LM) (kk : ∀ (IC : am_I) (LC : am_L) (IM : am_I) (LM : am_L), Rl al IC LC IM LM → am_JL x Q 1556 [some (.ref 1000020), some (.ref 500000), some (.ref 500001), some (.ref 500002), some (.int iv), none, none] [] al IC LC IM LM o nc ns) : am_JL x Q 895 [some (.ref 1000020), some (.ref 500000), some (.ref 500001), some (.ref 500002), some (.int iv), none, none] [] al IC LC IM LM o nc ns := by
  obtain ⟨r, IC', LC', IM', LM', e1, e2, hR2⟩ := hp al IC LC IM LM (xs (iv + (1 : Int32)).toNatClampNeg) hR
  refine l_aload_n hc dL_law_895 rfl ?_
  refine l_aload_n hc dL_law_896 rfl ?_
  refine l_iload hc dL_law_897 rfl ?_
  refine l_iconst (v := (1 : Int32)) hc dL_law_899 ci_1 ?_
  refine l_iadd hc dL_law_900 ?_
  refine l_sld hc hX dL_law_901 hin1 ?_
  refine l_callC (As := [.int (xs (iv + (1 : Int32)).toNatClampNeg)]) hc dL_law_902 (am_mem 1228 kv_1228 rfl) mX11_reads (kC_0 _) clX11 rfl rfl (by decide) (by decide) (Nat.le_of_ble_eq_true rfl) hnc (qX11_reads x.2.1 am_N 1900 (xs (iv + (1 : Int32)).toNatClampNeg) IC LC r IC' LC' e1) ?_
  refine l_aload_n hc dL_law_905 rfl ?_
  refine l_aload_n hc dL_law_906 rfl ?_
  refine l_iload hc dL_law_907 rfl ?_
  refine l_iconst (v := (1 : Int32)) hc dL_law_909 ci_1 ?_
  refine l_iadd hc dL_law_910 ?_
  refine l_sld hc hX dL_law_911 hin1 ?_
  refine l_callM (As := [.int (xs (iv + (1 : Int32)).toNatClampNeg)]) hc dL_law_912 (am_mem 1998 kv_1998 rfl) mX12_reads kM_0 clX12 rfl rfl (by decide) (by decide) (Nat.le_of_ble_eq_true rfl) hnc (qX12_reads x.2.1 am_N 1900 (xs (iv + (1 : Int32)).toNatClampNeg) IM LM r IM' LM' e2) ?_
  exact l_icmp_eq (tgt := 1556) hc dL_law_915 rfl (fun _ => kk _ _ _ _ hR2) (fun q => absurd rfl q)
set_option maxRecDepth 100000 in
set_option maxHeartbeats 4000000 in
theorem lc_away {x : am_X} {Q : State → Prop} {L : Nat} {xs : Nat → Int32} {Rl : am_Rl} (hc : am_ok x cL_law yL_law 7 (some .boolean) 2048 601024 7293034) (hX : am_sc x L xs) (hp : pd_away Rl) (iv : Int32) (hin1 : vp_in (iv + (1 : Int32)) L) (hin2 : vp_in (iv + (2 : Int32)) L) (hin3 : vp_in (iv + (3 : Int32)) L) (hin4 : vp_in (iv + (4 : Int32)) L) (hin5 : vp_in (iv + (5 : Int32)) L) (al : Bool) (IC : am_I) (LC : am_L) (IM : am_I) (LM : am_L) (o : Int64) (nc ns : Nat) (hnc : nc ≤ 601024 ∧ ns ≤ 7293034) (hR : Rl al IC LC IM LM) (kk : ∀ (IC : am_I) (LC : am_L) (IM : am_I) (LM : am_L), Rl al IC LC IM LM → am_JL x Q 1556 [some (.ref 1000020), some (.ref 500000), some (.ref 500001), some (.ref 500002), some (.int iv), none, none] [] al IC LC IM LM o nc ns) : am_JL x Q 920 [some (.ref 1000020), some (.ref 500000), some (.ref 500001), some (.ref 500002), some (.int iv), none, none] [] al IC LC IM LM o nc ns := by
  obtain ⟨r, IC', LC', IM', LM', e1, e2, hR2⟩ := hp al IC LC IM LM (xs (iv + (1 : Int32)).toNatClampNeg) hR
  refine l_aload_n hc dL_law_920 rfl ?_
  refine l_aload_n hc dL_law_921 rfl ?_
  refine l_iload hc dL_law_922 rfl ?_
  refine l_iconst (v := (1 : Int32)) hc dL_law_924 ci_1 ?_
  refine l_iadd hc dL_law_925 ?_
  refine l_sld hc hX dL_law_926 hin1 ?_
  refine l_callC (As := [.int (xs (iv + (1 : Int32)).toNatClampNeg)]) hc dL_law_927 (am_mem 1232 kv_1232 rfl) mX11_away (kC_0 _) clX11 rfl rfl (by decide) (by decide) (Nat.le_of_ble_eq_true rfl) hnc (qX11_away x.2.1 am_N 1900 (xs (iv + (1 : Int32)).toNatClampNeg) IC LC r IC' LC' e1) ?_
  refine l_aload_n hc dL_law_930 rfl ?_
  refine l_aload_n hc dL_law_931 rfl ?_
  refine l_iload hc dL_law_932 rfl ?_
  refine l_iconst (v := (1 : Int32)) hc dL_law_934 ci_1 ?_
  refine l_iadd hc dL_law_935 ?_
  refine l_sld hc hX dL_law_936 hin1 ?_
  refine l_callM (As := [.int (xs (iv + (1 : Int32)).toNatClampNeg)]) hc dL_law_937 (am_mem 2002 kv_2002 rfl) mX12_away kM_0 clX12 rfl rfl (by decide) (by decide) (Nat.le_of_ble_eq_true rfl) hnc (qX12_away x.2.1 am_N 1900 (xs (iv + (1 : Int32)).toNatClampNeg) IM LM r IM' LM' e2) ?_
  exact l_icmp_eq (tgt := 1556) hc dL_law_940 rfl (fun _ => kk _ _ _ _ hR2) (fun q => absurd rfl q)
set_option maxRecDepth 100000 in
set_option maxHeartbeats 4000000 in
theorem lc_forced {x : am_X} {Q : State → Prop} {L : Nat} {xs : Nat → Int32} {Rl : am_Rl} (hc : am_ok x cL_law yL_law 7 (some .boolean) 2048 601024 7293034) (hX : am_sc x L xs) (hp : pd_forced Rl) (iv : Int32) (hin1 : vp_in (iv + (1 : Int32)) L) (hin2 : vp_in (iv + (2 : Int32)) L) (hin3 : vp_in (iv + (3 : Int32)) L) (hin4 : vp_in (iv + (4 : Int32)) L) (hin5 : vp_in (iv + (5 : Int32)) L) (al : Bool) (IC : am_I) (LC : am_L) (IM : am_I) (LM : am_L) (o : Int64) (nc ns : Nat) (hnc : nc ≤ 601024 ∧ ns ≤ 7293034) (hR : Rl al IC LC IM LM) (kk : ∀ (IC : am_I) (LC : am_L) (IM : am_I) (LM : am_L), Rl al IC LC IM LM → am_JL x Q 1556 [some (.ref 1000020), some (.ref 500000), some (.ref 500001), some (.ref 500002), some (.int iv), none, none] [] al IC LC IM LM o nc ns) : am_JL x Q 945 [some (.ref 1000020), some (.ref 500000), some (.ref 500001), some (.ref 500002), some (.int iv), none, none] [] al IC LC IM LM o nc ns := by
  obtain ⟨r, IC', LC', IM', LM', e1, e2, hR2⟩ := hp al IC LC IM LM (xs (iv + (1 : Int32)).toNatClampNeg) hR
  refine l_aload_n hc dL_law_945 rfl ?_
  refine l_aload_n hc dL_law_946 rfl ?_
  refine l_iload hc dL_law_947 rfl ?_
  refine l_iconst (v := (1 : Int32)) hc dL_law_949 ci_1 ?_
  refine l_iadd hc dL_law_950 ?_
  refine l_sld hc hX dL_law_951 hin1 ?_
  refine l_callC (As := [.int (xs (iv + (1 : Int32)).toNatClampNeg)]) hc dL_law_952 (am_mem 1236 kv_1236 rfl) mX11_forced (kC_0 _) clX11 rfl rfl (by decide) (by decide) (Nat.le_of_ble_eq_true rfl) hnc (qX11_forced x.2.1 am_N 1900 (xs (iv + (1 : Int32)).toNatClampNeg) IC LC r IC' LC' e1) ?_
  refine l_aload_n hc dL_law_955 rfl ?_
  refine l_aload_n hc dL_law_956 rfl ?_
  refine l_iload hc dL_law_957 rfl ?_
  refine l_iconst (v := (1 : Int32)) hc dL_law_959 ci_1 ?_
  refine l_iadd hc dL_law_960 ?_
  refine l_sld hc hX dL_law_961 hin1 ?_
  refine l_callM (As := [.int (xs (iv + (1 : Int32)).toNatClampNeg)]) hc dL_law_962 (am_mem 2010 kv_2010 rfl) mX12_forced kM_0 clX12 rfl rfl (by decide) (by decide) (Nat.le_of_ble_eq_true rfl) hnc (qX12_forced x.2.1 am_N 1900 (xs (iv + (1 : Int32)).toNatClampNeg) IM LM r IM' LM' e2) ?_
  exact l_icmp_eq (tgt := 1556) hc dL_law_965 rfl (fun _ => kk _ _ _ _ hR2) (fun q => absurd rfl q)
set_option maxRecDepth 100000 in
set_option maxHeartbeats 4000000 in
theorem lc_soonest {x : am_X} {Q : State → Prop} {L : Nat} {xs : Nat → Int32} {Rl : am_Rl} (hc : am_ok x cL_law yL_law 7 (some .boolean) 2048 601024 7293034) (hX : am_sc x L xs) (hp : pd_soonest Rl) (iv : Int32) (hin1 : vp_in (iv + (1 : Int32)) L) (hin2 : vp_in (iv + (2 : Int32)) L) (hin3 : vp_in (iv + (3 : Int32)) L) (hin4 : vp_in (iv + (4 : Int32)) L) (hin5 : vp_in (iv + (5 : Int32)) L) (al : Bool) (IC : am_I) (LC : am_L) (IM : am_I) (LM : am_L) (o : Int64) (nc ns : Nat) (hnc : nc ≤ 601024 ∧ ns ≤ 7293034) (hR : Rl al IC LC IM LM) (kk : ∀ (IC : am_I) (LC : am_L) (IM : am_I) (LM : am_L), Rl al IC LC IM LM → am_JL x Q 1556 [some (.ref 1000020), some (.ref 500000), some (.ref 500001), some (.ref 500002), some (.int iv), none, none] [] al IC LC IM LM o nc ns) : am_JL x Q 970 [some (.ref 1000020), some (.ref 500000), some (.ref 500001), some (.ref 500002), some (.int iv), none, none] [] al IC LC IM LM o nc ns := by
  obtain ⟨r, IC', LC', IM', LM', e1, e2, hR2⟩ := hp al IC LC IM LM (xs (iv + (1 : Int32)).toNatClampNeg) hR
  refine l_aload_n hc dL_law_970 rfl ?_
  refine l_aload_n hc dL_law_971 rfl ?_
  refine l_iload hc dL_law_972 rfl ?_
  refine l_iconst (v := (1 : Int32)) hc dL_law_974 ci_1 ?_
  refine l_iadd hc dL_law_975 ?_
  refine l_sld hc hX dL_law_976 hin1 ?_
  refine l_callC (As := [.int (xs (iv + (1 : Int32)).toNatClampNeg)]) hc dL_law_977 (am_mem 1244 kv_1244 rfl) mX11_soonest (kC_0 _) clX11 rfl rfl (by decide) (by decide) (Nat.le_of_ble_eq_true rfl) hnc (qX11_soonest x.2.1 am_N 1900 (xs (iv + (1 : Int32)).toNatClampNeg) IC LC r IC' LC' e1) ?_
  refine l_aload_n hc dL_law_980 rfl ?_
  refine l_aload_n hc dL_law_981 rfl ?_
  refine l_iload hc dL_law_982 rfl ?_
  refine l_iconst (v := (1 : Int32)) hc dL_law_984 ci_1 ?_
  refine l_iadd hc dL_law_985 ?_
  refine l_sld hc hX dL_law_986 hin1 ?_
  refine l_callM (As := [.int (xs (iv + (1 : Int32)).toNatClampNeg)]) hc dL_law_987 (am_mem 2014 kv_2014 rfl) mX12_soonest kM_0 clX12 rfl rfl (by decide) (by decide) (Nat.le_of_ble_eq_true rfl) hnc (qX12_soonest x.2.1 am_N 1900 (xs (iv + (1 : Int32)).toNatClampNeg) IM LM r IM' LM' e2) ?_
  exact l_icmp_eq (tgt := 1556) hc dL_law_990 rfl (fun _ => kk _ _ _ _ hR2) (fun q => absurd rfl q)
set_option maxRecDepth 100000 in
set_option maxHeartbeats 4000000 in
theorem lc_pony {x : am_X} {Q : State → Prop} {L : Nat} {xs : Nat → Int32} {Rl : am_Rl} (hc : am_ok x cL_law yL_law 7 (some .boolean) 2048 601024 7293034) (hX : am_sc x L xs) (hp : pd_pony Rl) (iv : Int32) (hin1 : vp_in (iv + (1 : Int32)) L) (hin2 : vp_in (iv + (2 : Int32)) L) (hin3 : vp_in (iv + (3 : Int32)) L) (hin4 : vp_in (iv + (4 : Int32)) L) (hin5 : vp_in (iv + (5 : Int32)) L) (al : Bool) (IC : am_I) (LC : am_L) (IM : am_I) (LM : am_L) (o : Int64) (nc ns : Nat) (hnc : nc ≤ 601024 ∧ ns ≤ 7293034) (hR : Rl al IC LC IM LM) (kk : ∀ (IC : am_I) (LC : am_L) (IM : am_I) (LM : am_L), Rl al IC LC IM LM → am_JL x Q 1556 [some (.ref 1000020), some (.ref 500000), some (.ref 500001), some (.ref 500002), some (.int iv), none, none] [] al IC LC IM LM o nc ns) : am_JL x Q 995 [some (.ref 1000020), some (.ref 500000), some (.ref 500001), some (.ref 500002), some (.int iv), none, none] [] al IC LC IM LM o nc ns := by
  obtain ⟨r, IC', LC', IM', LM', e1, e2, hR2⟩ := hp al IC LC IM LM (xs (iv + (1 : Int32)).toNatClampNeg) hR
  refine l_aload_n hc dL_law_995 rfl ?_
  refine l_aload_n hc dL_law_996 rfl ?_
  refine l_iload hc dL_law_997 rfl ?_
  refine l_iconst (v := (1 : Int32)) hc dL_law_999 ci_1 ?_
  refine l_iadd hc dL_law_1000 ?_
  refine l_sld hc hX dL_law_1001 hin1 ?_
  refine l_callC (As := [.int (xs (iv + (1 : Int32)).toNatClampNeg)]) hc dL_law_1002 (am_mem 1256 kv_1256 rfl) mX11_pony (kC_0 _) clX11 rfl rfl (by decide) (by decide) (Nat.le_of_ble_eq_true rfl) hnc (qX11_pony x.2.1 am_N 1900 (xs (iv + (1 : Int32)).toNatClampNeg) IC LC r IC' LC' e1) ?_
  refine l_aload_n hc dL_law_1005 rfl ?_
  refine l_aload_n hc dL_law_1006 rfl ?_
  refine l_iload hc dL_law_1007 rfl ?_
  refine l_iconst (v := (1 : Int32)) hc dL_law_1009 ci_1 ?_
  refine l_iadd hc dL_law_1010 ?_
  refine l_sld hc hX dL_law_1011 hin1 ?_
  refine l_callM (As := [.int (xs (iv + (1 : Int32)).toNatClampNeg)]) hc dL_law_1012 (am_mem 2022 kv_2022 rfl) mX12_pony kM_0 clX12 rfl rfl (by decide) (by decide) (Nat.le_of_ble_eq_true rfl) hnc (qX12_pony x.2.1 am_N 1900 (xs (iv + (1 : Int32)).toNatClampNeg) IM LM r IM' LM' e2) ?_
  exact l_icmp_eq (tgt := 1556) hc dL_law_1015 rfl (fun _ => kk _ _ _ _ hR2) (fun q => absurd rfl q)
set_option maxRecDepth 100000 in
set_option maxHeartbeats 4000000 in
theorem lc_gets {x : am_X} {Q : State → Prop} {L : Nat} {xs : Nat → Int32} {Rl : am_Rl} (hc : am_ok x cL_law yL_law 7 (some .boolean) 2048 601024 7293034) (hX : am_sc x L xs) (hp : pd_gets Rl) (iv : Int32) (hin1 : vp_in (iv + (1 : Int32)) L) (hin2 : vp_in (iv + (2 : Int32)) L) (hin3 : vp_in (iv + (3 : Int32)) L) (hin4 : vp_in (iv + (4 : Int32)) L) (hin5 : vp_in (iv + (5 : Int32)) L) (al : Bool) (IC : am_I) (LC : am_L) (IM : am_I) (LM : am_L) (o : Int64) (nc ns : Nat) (hnc : nc ≤ 601024 ∧ ns ≤ 7293034) (hR : Rl al IC LC IM LM) (kk : ∀ (IC : am_I) (LC : am_L) (IM : am_I) (LM : am_L), Rl al IC LC IM LM → am_JL x Q 1556 [some (.ref 1000020), some (.ref 500000), some (.ref 500001), some (.ref 500002), some (.int iv), none, none] [] al IC LC IM LM o nc ns) : am_JL x Q 1020 [some (.ref 1000020), some (.ref 500000), some (.ref 500001), some (.ref 500002), some (.int iv), none, none] [] al IC LC IM LM o nc ns := by
  obtain ⟨r, IC', LC', IM', LM', e1, e2, hR2⟩ := hp al IC LC IM LM (xs (iv + (1 : Int32)).toNatClampNeg) (xs (iv + (2 : Int32)).toNatClampNeg) hR
  refine l_aload_n hc dL_law_1020 rfl ?_
  refine l_aload_n hc dL_law_1021 rfl ?_
  refine l_iload hc dL_law_1022 rfl ?_
  refine l_iconst (v := (1 : Int32)) hc dL_law_1024 ci_1 ?_
  refine l_iadd hc dL_law_1025 ?_
  refine l_sld hc hX dL_law_1026 hin1 ?_
  refine l_aload_n hc dL_law_1027 rfl ?_
  refine l_iload hc dL_law_1028 rfl ?_
  refine l_iconst (v := (2 : Int32)) hc dL_law_1030 ci_2 ?_
  refine l_iadd hc dL_law_1031 ?_
  refine l_sld hc hX dL_law_1032 hin2 ?_
  refine l_callC (As := [.int (xs (iv + (1 : Int32)).toNatClampNeg), .int (xs (iv + (2 : Int32)).toNatClampNeg)]) hc dL_law_1033 (am_mem 1287 kv_1287 rfl) mX11_gets (kC_0 _) clX11 rfl rfl (by decide) (by decide) (Nat.le_of_ble_eq_true rfl) hnc (qX11_gets x.2.1 am_N 1900 (xs (iv + (1 : Int32)).toNatClampNeg) (xs (iv + (2 : Int32)).toNatClampNeg) IC LC r IC' LC' e1) ?_
  refine l_aload_n hc dL_law_1036 rfl ?_
  refine l_aload_n hc dL_law_1037 rfl ?_
  refine l_iload hc dL_law_1038 rfl ?_
  refine l_iconst (v := (1 : Int32)) hc dL_law_1040 ci_1 ?_
  refine l_iadd hc dL_law_1041 ?_
  refine l_sld hc hX dL_law_1042 hin1 ?_
  refine l_aload_n hc dL_law_1043 rfl ?_
  refine l_iload hc dL_law_1044 rfl ?_
  refine l_iconst (v := (2 : Int32)) hc dL_law_1046 ci_2 ?_
  refine l_iadd hc dL_law_1047 ?_
  refine l_sld hc hX dL_law_1048 hin2 ?_
  refine l_callM (As := [.int (xs (iv + (1 : Int32)).toNatClampNeg), .int (xs (iv + (2 : Int32)).toNatClampNeg)]) hc dL_law_1049 (am_mem 2054 kv_2054 rfl) mX12_gets kM_0 clX12 rfl rfl (by decide) (by decide) (Nat.le_of_ble_eq_true rfl) hnc (qX12_gets x.2.1 am_N 1900 (xs (iv + (1 : Int32)).toNatClampNeg) (xs (iv + (2 : Int32)).toNatClampNeg) IM LM r IM' LM' e2) ?_
  exact l_icmp_eq (tgt := 1556) hc dL_law_1052 rfl (fun _ => kk _ _ _ _ hR2) (fun q => absurd rfl q)
set_option maxRecDepth 100000 in
set_option maxHeartbeats 4000000 in
theorem lc_resting {x : am_X} {Q : State → Prop} {L : Nat} {xs : Nat → Int32} {Rl : am_Rl} (hc : am_ok x cL_law yL_law 7 (some .boolean) 2048 601024 7293034) (hX : am_sc x L xs) (hp : pd_resting Rl) (iv : Int32) (hin1 : vp_in (iv + (1 : Int32)) L) (hin2 : vp_in (iv + (2 : Int32)) L) (hin3 : vp_in (iv + (3 : Int32)) L) (hin4 : vp_in (iv + (4 : Int32)) L) (hin5 : vp_in (iv + (5 : Int32)) L) (al : Bool) (IC : am_I) (LC : am_L) (IM : am_I) (LM : am_L) (o : Int64) (nc ns : Nat) (hnc : nc ≤ 601024 ∧ ns ≤ 7293034) (hR : Rl al IC LC IM LM) (kk : ∀ (IC : am_I) (LC : am_L) (IM : am_I) (LM : am_L), Rl al IC LC IM LM → am_JL x Q 1556 [some (.ref 1000020), some (.ref 500000), some (.ref 500001), some (.ref 500002), some (.int iv), none, none] [] al IC LC IM LM o nc ns) : am_JL x Q 1057 [some (.ref 1000020), some (.ref 500000), some (.ref 500001), some (.ref 500002), some (.int iv), none, none] [] al IC LC IM LM o nc ns := by
  obtain ⟨r, IC', LC', IM', LM', e1, e2, hR2⟩ := hp al IC LC IM LM (xs (iv + (1 : Int32)).toNatClampNeg) hR
  refine l_aload_n hc dL_law_1057 rfl ?_
  refine l_aload_n hc dL_law_1058 rfl ?_
  refine l_iload hc dL_law_1059 rfl ?_
  refine l_iconst (v := (1 : Int32)) hc dL_law_1061 ci_1 ?_
  refine l_iadd hc dL_law_1062 ?_
  refine l_sld hc hX dL_law_1063 hin1 ?_
  refine l_callC (As := [.int (xs (iv + (1 : Int32)).toNatClampNeg)]) hc dL_law_1064 (am_mem 1300 kv_1300 rfl) mX11_resting (kC_0 _) clX11 rfl rfl (by decide) (by decide) (Nat.le_of_ble_eq_true rfl) hnc (qX11_resting x.2.1 am_N 1900 (xs (iv + (1 : Int32)).toNatClampNeg) IC LC r IC' LC' e1) ?_
  refine l_aload_n hc dL_law_1067 rfl ?_
  refine l_aload_n hc dL_law_1068 rfl ?_
  refine l_iload hc dL_law_1069 rfl ?_
  refine l_iconst (v := (1 : Int32)) hc dL_law_1071 ci_1 ?_
  refine l_iadd hc dL_law_1072 ?_
  refine l_sld hc hX dL_law_1073 hin1 ?_
  refine l_callM (As := [.int (xs (iv + (1 : Int32)).toNatClampNeg)]) hc dL_law_1074 (am_mem 2062 kv_2062 rfl) mX12_resting kM_0 clX12 rfl rfl (by decide) (by decide) (Nat.le_of_ble_eq_true rfl) hnc (qX12_resting x.2.1 am_N 1900 (xs (iv + (1 : Int32)).toNatClampNeg) IM LM r IM' LM' e2) ?_
  exact l_icmp_eq (tgt := 1556) hc dL_law_1077 rfl (fun _ => kk _ _ _ _ hR2) (fun q => absurd rfl q)
set_option maxRecDepth 100000 in
set_option maxHeartbeats 4000000 in
theorem lc_letter {x : am_X} {Q : State → Prop} {L : Nat} {xs : Nat → Int32} {Rl : am_Rl} (hc : am_ok x cL_law yL_law 7 (some .boolean) 2048 601024 7293034) (hX : am_sc x L xs) (hp : pd_letter Rl) (iv : Int32) (hin1 : vp_in (iv + (1 : Int32)) L) (hin2 : vp_in (iv + (2 : Int32)) L) (hin3 : vp_in (iv + (3 : Int32)) L) (hin4 : vp_in (iv + (4 : Int32)) L) (hin5 : vp_in (iv + (5 : Int32)) L) (al : Bool) (IC : am_I) (LC : am_L) (IM : am_I) (LM : am_L) (o : Int64) (nc ns : Nat) (hnc : nc ≤ 601024 ∧ ns ≤ 7293034) (hR : Rl al IC LC IM LM) (kk : ∀ (IC : am_I) (LC : am_L) (IM : am_I) (LM : am_L), Rl al IC LC IM LM → am_JL x Q 1556 [some (.ref 1000020), some (.ref 500000), some (.ref 500001), some (.ref 500002), some (.int iv), none, none] [] al IC LC IM LM o nc ns) : am_JL x Q 1082 [some (.ref 1000020), some (.ref 500000), some (.ref 500001), some (.ref 500002), some (.int iv), none, none] [] al IC LC IM LM o nc ns := by
  obtain ⟨r, IC', LC', IM', LM', e1, e2, hR2⟩ := hp al IC LC IM LM (xs (iv + (1 : Int32)).toNatClampNeg) (xs (iv + (2 : Int32)).toNatClampNeg) hR
  refine l_aload_n hc dL_law_1082 rfl ?_
  refine l_aload_n hc dL_law_1083 rfl ?_
  refine l_iload hc dL_law_1084 rfl ?_
  refine l_iconst (v := (1 : Int32)) hc dL_law_1086 ci_1 ?_
  refine l_iadd hc dL_law_1087 ?_
  refine l_sld hc hX dL_law_1088 hin1 ?_
  refine l_aload_n hc dL_law_1089 rfl ?_
  refine l_iload hc dL_law_1090 rfl ?_
  refine l_iconst (v := (2 : Int32)) hc dL_law_1092 ci_2 ?_
  refine l_iadd hc dL_law_1093 ?_
  refine l_sld hc hX dL_law_1094 hin2 ?_
  refine l_callC (As := [.int (xs (iv + (1 : Int32)).toNatClampNeg), .int (xs (iv + (2 : Int32)).toNatClampNeg)]) hc dL_law_1095 (am_mem 1309 kv_1309 rfl) mX11_letter (kC_0 _) clX11 rfl rfl (by decide) (by decide) (Nat.le_of_ble_eq_true rfl) hnc (qX11_letter x.2.1 am_N 1900 (xs (iv + (1 : Int32)).toNatClampNeg) (xs (iv + (2 : Int32)).toNatClampNeg) IC LC r IC' LC' e1) ?_
  refine l_aload_n hc dL_law_1098 rfl ?_
  refine l_aload_n hc dL_law_1099 rfl ?_
  refine l_iload hc dL_law_1100 rfl ?_
  refine l_iconst (v := (1 : Int32)) hc dL_law_1102 ci_1 ?_
  refine l_iadd hc dL_law_1103 ?_
  refine l_sld hc hX dL_law_1104 hin1 ?_
  refine l_aload_n hc dL_law_1105 rfl ?_
  refine l_iload hc dL_law_1106 rfl ?_
  refine l_iconst (v := (2 : Int32)) hc dL_law_1108 ci_2 ?_
  refine l_iadd hc dL_law_1109 ?_
  refine l_sld hc hX dL_law_1110 hin2 ?_
  refine l_callM (As := [.int (xs (iv + (1 : Int32)).toNatClampNeg), .int (xs (iv + (2 : Int32)).toNatClampNeg)]) hc dL_law_1111 (am_mem 2066 kv_2066 rfl) mX12_letter kM_0 clX12 rfl rfl (by decide) (by decide) (Nat.le_of_ble_eq_true rfl) hnc (qX12_letter x.2.1 am_N 1900 (xs (iv + (1 : Int32)).toNatClampNeg) (xs (iv + (2 : Int32)).toNatClampNeg) IM LM r IM' LM' e2) ?_
  exact l_icmp_eq (tgt := 1556) hc dL_law_1114 rfl (fun _ => kk _ _ _ _ hR2) (fun q => absurd rfl q)
set_option maxRecDepth 100000 in
set_option maxHeartbeats 4000000 in
theorem lc_fit {x : am_X} {Q : State → Prop} {L : Nat} {xs : Nat → Int32} {Rl : am_Rl} (hc : am_ok x cL_law yL_law 7 (some .boolean) 2048 601024 7293034) (hX : am_sc x L xs) (hp : pd_fit Rl) (iv : Int32) (hin1 : vp_in (iv + (1 : Int32)) L) (hin2 : vp_in (iv + (2 : Int32)) L) (hin3 : vp_in (iv + (3 : Int32)) L) (hin4 : vp_in (iv + (4 : Int32)) L) (hin5 : vp_in (iv + (5 : Int32)) L) (al : Bool) (IC : am_I) (LC : am_L) (IM : am_I) (LM : am_L) (o : Int64) (nc ns : Nat) (hnc : nc ≤ 601024 ∧ ns ≤ 7293034) (hR : Rl al IC LC IM LM) (kk : ∀ (IC : am_I) (LC : am_L) (IM : am_I) (LM : am_L), Rl al IC LC IM LM → am_JL x Q 1556 [some (.ref 1000020), some (.ref 500000), some (.ref 500001), some (.ref 500002), some (.int iv), none, none] [] al IC LC IM LM o nc ns) : am_JL x Q 1119 [some (.ref 1000020), some (.ref 500000), some (.ref 500001), some (.ref 500002), some (.int iv), none, none] [] al IC LC IM LM o nc ns := by
  obtain ⟨r, IC', LC', IM', LM', e1, e2, hR2⟩ := hp al IC LC IM LM (xs (iv + (1 : Int32)).toNatClampNeg) (xs (iv + (2 : Int32)).toNatClampNeg) hR
  refine l_aload_n hc dL_law_1119 rfl ?_
  refine l_aload_n hc dL_law_1120 rfl ?_
  refine l_iload hc dL_law_1121 rfl ?_
  refine l_iconst (v := (1 : Int32)) hc dL_law_1123 ci_1 ?_
  refine l_iadd hc dL_law_1124 ?_
  refine l_sld hc hX dL_law_1125 hin1 ?_
  refine l_aload_n hc dL_law_1126 rfl ?_
  refine l_iload hc dL_law_1127 rfl ?_
  refine l_iconst (v := (2 : Int32)) hc dL_law_1129 ci_2 ?_
  refine l_iadd hc dL_law_1130 ?_
  refine l_sld hc hX dL_law_1131 hin2 ?_
  refine l_callC (As := [.int (xs (iv + (1 : Int32)).toNatClampNeg), .int (xs (iv + (2 : Int32)).toNatClampNeg)]) hc dL_law_1132 (am_mem 1317 kv_1317 rfl) mX11_fit (kC_0 _) clX11 rfl rfl (by decide) (by decide) (Nat.le_of_ble_eq_true rfl) hnc (qX11_fit x.2.1 am_N 1900 (xs (iv + (1 : Int32)).toNatClampNeg) (xs (iv + (2 : Int32)).toNatClampNeg) IC LC r IC' LC' e1) ?_
  refine l_aload_n hc dL_law_1135 rfl ?_
  refine l_aload_n hc dL_law_1136 rfl ?_
  refine l_iload hc dL_law_1137 rfl ?_
  refine l_iconst (v := (1 : Int32)) hc dL_law_1139 ci_1 ?_
  refine l_iadd hc dL_law_1140 ?_
  refine l_sld hc hX dL_law_1141 hin1 ?_
  refine l_aload_n hc dL_law_1142 rfl ?_
  refine l_iload hc dL_law_1143 rfl ?_
  refine l_iconst (v := (2 : Int32)) hc dL_law_1145 ci_2 ?_
  refine l_iadd hc dL_law_1146 ?_
  refine l_sld hc hX dL_law_1147 hin2 ?_
  refine l_callM (As := [.int (xs (iv + (1 : Int32)).toNatClampNeg), .int (xs (iv + (2 : Int32)).toNatClampNeg)]) hc dL_law_1148 (am_mem 2070 kv_2070 rfl) mX12_fit kM_0 clX12 rfl rfl (by decide) (by decide) (Nat.le_of_ble_eq_true rfl) hnc (qX12_fit x.2.1 am_N 1900 (xs (iv + (1 : Int32)).toNatClampNeg) (xs (iv + (2 : Int32)).toNatClampNeg) IM LM r IM' LM' e2) ?_
  exact l_icmp_eq (tgt := 1556) hc dL_law_1151 rfl (fun _ => kk _ _ _ _ hR2) (fun q => absurd rfl q)
set_option maxRecDepth 100000 in
set_option maxHeartbeats 4000000 in
theorem lc_ask {x : am_X} {Q : State → Prop} {L : Nat} {xs : Nat → Int32} {Rl : am_Rl} (hc : am_ok x cL_law yL_law 7 (some .boolean) 2048 601024 7293034) (hX : am_sc x L xs) (hp : pd_ask Rl) (iv : Int32) (hin1 : vp_in (iv + (1 : Int32)) L) (hin2 : vp_in (iv + (2 : Int32)) L) (hin3 : vp_in (iv + (3 : Int32)) L) (hin4 : vp_in (iv + (4 : Int32)) L) (hin5 : vp_in (iv + (5 : Int32)) L) (al : Bool) (IC : am_I) (LC : am_L) (IM : am_I) (LM : am_L) (o : Int64) (nc ns : Nat) (hnc : nc ≤ 601024 ∧ ns ≤ 7293034) (hR : Rl al IC LC IM LM) (kk : ∀ (IC : am_I) (LC : am_L) (IM : am_I) (LM : am_L), Rl al IC LC IM LM → am_JL x Q 1556 [some (.ref 1000020), some (.ref 500000), some (.ref 500001), some (.ref 500002), some (.int iv), none, none] [] al IC LC IM LM o nc ns) : am_JL x Q 1156 [some (.ref 1000020), some (.ref 500000), some (.ref 500001), some (.ref 500002), some (.int iv), none, none] [] al IC LC IM LM o nc ns := by
  obtain ⟨r, IC', LC', IM', LM', e1, e2, hR2⟩ := hp al IC LC IM LM (xs (iv + (1 : Int32)).toNatClampNeg) (xs (iv + (2 : Int32)).toNatClampNeg) hR
  refine l_aload_n hc dL_law_1156 rfl ?_
  refine l_aload_n hc dL_law_1157 rfl ?_
  refine l_iload hc dL_law_1158 rfl ?_
  refine l_iconst (v := (1 : Int32)) hc dL_law_1160 ci_1 ?_
  refine l_iadd hc dL_law_1161 ?_
  refine l_sld hc hX dL_law_1162 hin1 ?_
  refine l_aload_n hc dL_law_1163 rfl ?_
  refine l_iload hc dL_law_1164 rfl ?_
  refine l_iconst (v := (2 : Int32)) hc dL_law_1166 ci_2 ?_
  refine l_iadd hc dL_law_1167 ?_
  refine l_sld hc hX dL_law_1168 hin2 ?_
  refine l_callC (As := [.int (xs (iv + (1 : Int32)).toNatClampNeg), .int (xs (iv + (2 : Int32)).toNatClampNeg)]) hc dL_law_1169 (am_mem 1345 kv_1345 rfl) mX11_ask (kC_0 _) clX11 rfl rfl (by decide) (by decide) (Nat.le_of_ble_eq_true rfl) hnc (qX11_ask x.2.1 am_N 1900 (xs (iv + (1 : Int32)).toNatClampNeg) (xs (iv + (2 : Int32)).toNatClampNeg) IC LC r IC' LC' e1) ?_
  refine l_aload_n hc dL_law_1172 rfl ?_
  refine l_aload_n hc dL_law_1173 rfl ?_
  refine l_iload hc dL_law_1174 rfl ?_
  refine l_iconst (v := (1 : Int32)) hc dL_law_1176 ci_1 ?_
  refine l_iadd hc dL_law_1177 ?_
  refine l_sld hc hX dL_law_1178 hin1 ?_
  refine l_aload_n hc dL_law_1179 rfl ?_
  refine l_iload hc dL_law_1180 rfl ?_
  refine l_iconst (v := (2 : Int32)) hc dL_law_1182 ci_2 ?_
  refine l_iadd hc dL_law_1183 ?_
  refine l_sld hc hX dL_law_1184 hin2 ?_
  refine l_callM (As := [.int (xs (iv + (1 : Int32)).toNatClampNeg), .int (xs (iv + (2 : Int32)).toNatClampNeg)]) hc dL_law_1185 (am_mem 2084 kv_2084 rfl) mX12_ask kM_0 clX12 rfl rfl (by decide) (by decide) (Nat.le_of_ble_eq_true rfl) hnc (qX12_ask x.2.1 am_N 1900 (xs (iv + (1 : Int32)).toNatClampNeg) (xs (iv + (2 : Int32)).toNatClampNeg) IM LM r IM' LM' e2) ?_
  exact l_icmp_eq (tgt := 1556) hc dL_law_1188 rfl (fun _ => kk _ _ _ _ hR2) (fun q => absurd rfl q)
set_option maxRecDepth 100000 in
set_option maxHeartbeats 4000000 in
theorem lc_odds {x : am_X} {Q : State → Prop} {L : Nat} {xs : Nat → Int32} {Rl : am_Rl} (hc : am_ok x cL_law yL_law 7 (some .boolean) 2048 601024 7293034) (hX : am_sc x L xs) (hp : pd_odds Rl) (iv : Int32) (hin1 : vp_in (iv + (1 : Int32)) L) (hin2 : vp_in (iv + (2 : Int32)) L) (hin3 : vp_in (iv + (3 : Int32)) L) (hin4 : vp_in (iv + (4 : Int32)) L) (hin5 : vp_in (iv + (5 : Int32)) L) (al : Bool) (IC : am_I) (LC : am_L) (IM : am_I) (LM : am_L) (o : Int64) (nc ns : Nat) (hnc : nc ≤ 601024 ∧ ns ≤ 7293034) (hR : Rl al IC LC IM LM) (kk : ∀ (IC : am_I) (LC : am_L) (IM : am_I) (LM : am_L), Rl al IC LC IM LM → am_JL x Q 1556 [some (.ref 1000020), some (.ref 500000), some (.ref 500001), some (.ref 500002), some (.int iv), none, none] [] al IC LC IM LM o nc ns) : am_JL x Q 1193 [some (.ref 1000020), some (.ref 500000), some (.ref 500001), some (.ref 500002), some (.int iv), none, none] [] al IC LC IM LM o nc ns := by
  obtain ⟨r, IC', LC', IM', LM', e1, e2, hR2⟩ := hp al IC LC IM LM (xs (iv + (1 : Int32)).toNatClampNeg) (xs (iv + (2 : Int32)).toNatClampNeg) hR
  refine l_aload_n hc dL_law_1193 rfl ?_
  refine l_aload_n hc dL_law_1194 rfl ?_
  refine l_iload hc dL_law_1195 rfl ?_
  refine l_iconst (v := (1 : Int32)) hc dL_law_1197 ci_1 ?_
  refine l_iadd hc dL_law_1198 ?_
  refine l_sld hc hX dL_law_1199 hin1 ?_
  refine l_aload_n hc dL_law_1200 rfl ?_
  refine l_iload hc dL_law_1201 rfl ?_
  refine l_iconst (v := (2 : Int32)) hc dL_law_1203 ci_2 ?_
  refine l_iadd hc dL_law_1204 ?_
  refine l_sld hc hX dL_law_1205 hin2 ?_
  refine l_callC (As := [.int (xs (iv + (1 : Int32)).toNatClampNeg), .int (xs (iv + (2 : Int32)).toNatClampNeg)]) hc dL_law_1206 (am_mem 1379 kv_1379 rfl) mX11_odds (kC_0 _) clX11 rfl rfl (by decide) (by decide) (Nat.le_of_ble_eq_true rfl) hnc (qX11_odds x.2.1 am_N 1900 (xs (iv + (1 : Int32)).toNatClampNeg) (xs (iv + (2 : Int32)).toNatClampNeg) IC LC r IC' LC' e1) ?_
  refine l_aload_n hc dL_law_1209 rfl ?_
  refine l_aload_n hc dL_law_1210 rfl ?_
  refine l_iload hc dL_law_1211 rfl ?_
  refine l_iconst (v := (1 : Int32)) hc dL_law_1213 ci_1 ?_
  refine l_iadd hc dL_law_1214 ?_
  refine l_sld hc hX dL_law_1215 hin1 ?_
  refine l_aload_n hc dL_law_1216 rfl ?_
  refine l_iload hc dL_law_1217 rfl ?_
  refine l_iconst (v := (2 : Int32)) hc dL_law_1219 ci_2 ?_
  refine l_iadd hc dL_law_1220 ?_
  refine l_sld hc hX dL_law_1221 hin2 ?_
  refine l_callM (As := [.int (xs (iv + (1 : Int32)).toNatClampNeg), .int (xs (iv + (2 : Int32)).toNatClampNeg)]) hc dL_law_1222 (am_mem 2093 kv_2093 rfl) mX12_odds kM_0 clX12 rfl rfl (by decide) (by decide) (Nat.le_of_ble_eq_true rfl) hnc (qX12_odds x.2.1 am_N 1900 (xs (iv + (1 : Int32)).toNatClampNeg) (xs (iv + (2 : Int32)).toNatClampNeg) IM LM r IM' LM' e2) ?_
  exact l_icmp_eq (tgt := 1556) hc dL_law_1225 rfl (fun _ => kk _ _ _ _ hR2) (fun q => absurd rfl q)
set_option maxRecDepth 100000 in
set_option maxHeartbeats 4000000 in
theorem lc_hurry {x : am_X} {Q : State → Prop} {L : Nat} {xs : Nat → Int32} {Rl : am_Rl} (hc : am_ok x cL_law yL_law 7 (some .boolean) 2048 601024 7293034) (hX : am_sc x L xs) (hp : pd_hurry Rl) (iv : Int32) (hin1 : vp_in (iv + (1 : Int32)) L) (hin2 : vp_in (iv + (2 : Int32)) L) (hin3 : vp_in (iv + (3 : Int32)) L) (hin4 : vp_in (iv + (4 : Int32)) L) (hin5 : vp_in (iv + (5 : Int32)) L) (al : Bool) (IC : am_I) (LC : am_L) (IM : am_I) (LM : am_L) (o : Int64) (nc ns : Nat) (hnc : nc ≤ 601024 ∧ ns ≤ 7293034) (hR : Rl al IC LC IM LM) (kk : ∀ (IC : am_I) (LC : am_L) (IM : am_I) (LM : am_L), Rl al IC LC IM LM → am_JL x Q 1556 [some (.ref 1000020), some (.ref 500000), some (.ref 500001), some (.ref 500002), some (.int iv), none, none] [] al IC LC IM LM o nc ns) : am_JL x Q 1230 [some (.ref 1000020), some (.ref 500000), some (.ref 500001), some (.ref 500002), some (.int iv), none, none] [] al IC LC IM LM o nc ns := by
  obtain ⟨r, IC', LC', IM', LM', e1, e2, hR2⟩ := hp al IC LC IM LM (xs (iv + (1 : Int32)).toNatClampNeg) (xs (iv + (2 : Int32)).toNatClampNeg) hR
  refine l_aload_n hc dL_law_1230 rfl ?_
  refine l_aload_n hc dL_law_1231 rfl ?_
  refine l_iload hc dL_law_1232 rfl ?_
  refine l_iconst (v := (1 : Int32)) hc dL_law_1234 ci_1 ?_
  refine l_iadd hc dL_law_1235 ?_
  refine l_sld hc hX dL_law_1236 hin1 ?_
  refine l_aload_n hc dL_law_1237 rfl ?_
  refine l_iload hc dL_law_1238 rfl ?_
  refine l_iconst (v := (2 : Int32)) hc dL_law_1240 ci_2 ?_
  refine l_iadd hc dL_law_1241 ?_
  refine l_sld hc hX dL_law_1242 hin2 ?_
  refine l_callC (As := [.int (xs (iv + (1 : Int32)).toNatClampNeg), .int (xs (iv + (2 : Int32)).toNatClampNeg)]) hc dL_law_1243 (am_mem 1392 kv_1392 rfl) mX11_hurry (kC_0 _) clX11 rfl rfl (by decide) (by decide) (Nat.le_of_ble_eq_true rfl) hnc (qX11_hurry x.2.1 am_N 1900 (xs (iv + (1 : Int32)).toNatClampNeg) (xs (iv + (2 : Int32)).toNatClampNeg) IC LC r IC' LC' e1) ?_
  refine l_aload_n hc dL_law_1246 rfl ?_
  refine l_aload_n hc dL_law_1247 rfl ?_
  refine l_iload hc dL_law_1248 rfl ?_
  refine l_iconst (v := (1 : Int32)) hc dL_law_1250 ci_1 ?_
  refine l_iadd hc dL_law_1251 ?_
  refine l_sld hc hX dL_law_1252 hin1 ?_
  refine l_aload_n hc dL_law_1253 rfl ?_
  refine l_iload hc dL_law_1254 rfl ?_
  refine l_iconst (v := (2 : Int32)) hc dL_law_1256 ci_2 ?_
  refine l_iadd hc dL_law_1257 ?_
  refine l_sld hc hX dL_law_1258 hin2 ?_
  refine l_callM (As := [.int (xs (iv + (1 : Int32)).toNatClampNeg), .int (xs (iv + (2 : Int32)).toNatClampNeg)]) hc dL_law_1259 (am_mem 2103 kv_2103 rfl) mX12_hurry kM_0 clX12 rfl rfl (by decide) (by decide) (Nat.le_of_ble_eq_true rfl) hnc (qX12_hurry x.2.1 am_N 1900 (xs (iv + (1 : Int32)).toNatClampNeg) (xs (iv + (2 : Int32)).toNatClampNeg) IM LM r IM' LM' e2) ?_
  exact l_icmp_eq (tgt := 1556) hc dL_law_1262 rfl (fun _ => kk _ _ _ _ hR2) (fun q => absurd rfl q)
set_option maxRecDepth 100000 in
set_option maxHeartbeats 4000000 in
theorem lc_behind {x : am_X} {Q : State → Prop} {L : Nat} {xs : Nat → Int32} {Rl : am_Rl} (hc : am_ok x cL_law yL_law 7 (some .boolean) 2048 601024 7293034) (hX : am_sc x L xs) (hp : pd_behind Rl) (iv : Int32) (hin1 : vp_in (iv + (1 : Int32)) L) (hin2 : vp_in (iv + (2 : Int32)) L) (hin3 : vp_in (iv + (3 : Int32)) L) (hin4 : vp_in (iv + (4 : Int32)) L) (hin5 : vp_in (iv + (5 : Int32)) L) (al : Bool) (IC : am_I) (LC : am_L) (IM : am_I) (LM : am_L) (o : Int64) (nc ns : Nat) (hnc : nc ≤ 601024 ∧ ns ≤ 7293034) (hR : Rl al IC LC IM LM) (kk : ∀ (IC : am_I) (LC : am_L) (IM : am_I) (LM : am_L), Rl al IC LC IM LM → am_JL x Q 1556 [some (.ref 1000020), some (.ref 500000), some (.ref 500001), some (.ref 500002), some (.int iv), none, none] [] al IC LC IM LM o nc ns) : am_JL x Q 1267 [some (.ref 1000020), some (.ref 500000), some (.ref 500001), some (.ref 500002), some (.int iv), none, none] [] al IC LC IM LM o nc ns := by
  obtain ⟨r, IC', LC', IM', LM', e1, e2, hR2⟩ := hp al IC LC IM LM (xs (iv + (1 : Int32)).toNatClampNeg) hR
  refine l_aload_n hc dL_law_1267 rfl ?_
  refine l_aload_n hc dL_law_1268 rfl ?_
  refine l_iload hc dL_law_1269 rfl ?_
  refine l_iconst (v := (1 : Int32)) hc dL_law_1271 ci_1 ?_
  refine l_iadd hc dL_law_1272 ?_
  refine l_sld hc hX dL_law_1273 hin1 ?_
  refine l_callC (As := [.int (xs (iv + (1 : Int32)).toNatClampNeg)]) hc dL_law_1274 (am_mem 1262 kv_1262 rfl) mX11_behind (kC_0 _) clX11 rfl rfl (by decide) (by decide) (Nat.le_of_ble_eq_true rfl) hnc (qX11_behind x.2.1 am_N 1900 (xs (iv + (1 : Int32)).toNatClampNeg) IC LC r IC' LC' e1) ?_
  refine l_aload_n hc dL_law_1277 rfl ?_
  refine l_aload_n hc dL_law_1278 rfl ?_
  refine l_iload hc dL_law_1279 rfl ?_
  refine l_iconst (v := (1 : Int32)) hc dL_law_1281 ci_1 ?_
  refine l_iadd hc dL_law_1282 ?_
  refine l_sld hc hX dL_law_1283 hin1 ?_
  refine l_callM (As := [.int (xs (iv + (1 : Int32)).toNatClampNeg)]) hc dL_law_1284 (am_mem 2030 kv_2030 rfl) mX12_behind kM_0 clX12 rfl rfl (by decide) (by decide) (Nat.le_of_ble_eq_true rfl) hnc (qX12_behind x.2.1 am_N 1900 (xs (iv + (1 : Int32)).toNatClampNeg) IM LM r IM' LM' e2) ?_
  exact l_icmp_eq (tgt := 1556) hc dL_law_1287 rfl (fun _ => kk _ _ _ _ hR2) (fun q => absurd rfl q)
set_option maxRecDepth 100000 in
set_option maxHeartbeats 4000000 in
theorem lc_next {x : am_X} {Q : State → Prop} {L : Nat} {xs : Nat → Int32} {Rl : am_Rl} (hc : am_ok x cL_law yL_law 7 (some .boolean) 2048 601024 7293034) (hX : am_sc x L xs) (hp : pd_next Rl) (iv : Int32) (hin1 : vp_in (iv + (1 : Int32)) L) (hin2 : vp_in (iv + (2 : Int32)) L) (hin3 : vp_in (iv + (3 : Int32)) L) (hin4 : vp_in (iv + (4 : Int32)) L) (hin5 : vp_in (iv + (5 : Int32)) L) (al : Bool) (IC : am_I) (LC : am_L) (IM : am_I) (LM : am_L) (o : Int64) (nc ns : Nat) (hnc : nc ≤ 601024 ∧ ns ≤ 7293034) (hR : Rl al IC LC IM LM) (kk : ∀ (IC : am_I) (LC : am_L) (IM : am_I) (LM : am_L), Rl al IC LC IM LM → am_JL x Q 1556 [some (.ref 1000020), some (.ref 500000), some (.ref 500001), some (.ref 500002), some (.int iv), none, none] [] al IC LC IM LM o nc ns) : am_JL x Q 1292 [some (.ref 1000020), some (.ref 500000), some (.ref 500001), some (.ref 500002), some (.int iv), none, none] [] al IC LC IM LM o nc ns := by
  obtain ⟨r, IC', LC', IM', LM', e1, e2, hR2⟩ := hp al IC LC IM LM (xs (iv + (1 : Int32)).toNatClampNeg) hR
  refine l_aload_n hc dL_law_1292 rfl ?_
  refine l_aload_n hc dL_law_1293 rfl ?_
  refine l_iload hc dL_law_1294 rfl ?_
  refine l_iconst (v := (1 : Int32)) hc dL_law_1296 ci_1 ?_
  refine l_iadd hc dL_law_1297 ?_
  refine l_sld hc hX dL_law_1298 hin1 ?_
  refine l_callC (As := [.int (xs (iv + (1 : Int32)).toNatClampNeg)]) hc dL_law_1299 (am_mem 1266 kv_1266 rfl) mX11_next (kC_0 _) clX11 rfl rfl (by decide) (by decide) (Nat.le_of_ble_eq_true rfl) hnc (qX11_next x.2.1 am_N 1900 (xs (iv + (1 : Int32)).toNatClampNeg) IC LC r IC' LC' e1) ?_
  refine l_aload_n hc dL_law_1302 rfl ?_
  refine l_aload_n hc dL_law_1303 rfl ?_
  refine l_iload hc dL_law_1304 rfl ?_
  refine l_iconst (v := (1 : Int32)) hc dL_law_1306 ci_1 ?_
  refine l_iadd hc dL_law_1307 ?_
  refine l_sld hc hX dL_law_1308 hin1 ?_
  refine l_callM (As := [.int (xs (iv + (1 : Int32)).toNatClampNeg)]) hc dL_law_1309 (am_mem 2034 kv_2034 rfl) mX12_next kM_0 clX12 rfl rfl (by decide) (by decide) (Nat.le_of_ble_eq_true rfl) hnc (qX12_next x.2.1 am_N 1900 (xs (iv + (1 : Int32)).toNatClampNeg) IM LM r IM' LM' e2) ?_
  exact l_icmp_eq (tgt := 1556) hc dL_law_1312 rfl (fun _ => kk _ _ _ _ hR2) (fun q => absurd rfl q)
set_option maxRecDepth 100000 in
set_option maxHeartbeats 4000000 in
theorem lc_last {x : am_X} {Q : State → Prop} {L : Nat} {xs : Nat → Int32} {Rl : am_Rl} (hc : am_ok x cL_law yL_law 7 (some .boolean) 2048 601024 7293034) (hX : am_sc x L xs) (hp : pd_last Rl) (iv : Int32) (hin1 : vp_in (iv + (1 : Int32)) L) (hin2 : vp_in (iv + (2 : Int32)) L) (hin3 : vp_in (iv + (3 : Int32)) L) (hin4 : vp_in (iv + (4 : Int32)) L) (hin5 : vp_in (iv + (5 : Int32)) L) (al : Bool) (IC : am_I) (LC : am_L) (IM : am_I) (LM : am_L) (o : Int64) (nc ns : Nat) (hnc : nc ≤ 601024 ∧ ns ≤ 7293034) (hR : Rl al IC LC IM LM) (kk : ∀ (IC : am_I) (LC : am_L) (IM : am_I) (LM : am_L), Rl al IC LC IM LM → am_JL x Q 1556 [some (.ref 1000020), some (.ref 500000), some (.ref 500001), some (.ref 500002), some (.int iv), none, none] [] al IC LC IM LM o nc ns) : am_JL x Q 1317 [some (.ref 1000020), some (.ref 500000), some (.ref 500001), some (.ref 500002), some (.int iv), none, none] [] al IC LC IM LM o nc ns := by
  obtain ⟨r, IC', LC', IM', LM', e1, e2, hR2⟩ := hp al IC LC IM LM hR
  refine l_aload_n hc dL_law_1317 rfl ?_
  refine l_callC (As := []) hc dL_law_1318 (am_mem 1257 kv_1257 rfl) mX11_last (kC_0 _) clX11 rfl rfl (by decide) (by decide) (Nat.le_of_ble_eq_true rfl) hnc (qX11_last x.2.1 am_N 1900 IC LC r IC' LC' e1) ?_
  refine l_aload_n hc dL_law_1321 rfl ?_
  refine l_callM (As := []) hc dL_law_1322 (am_mem 2026 kv_2026 rfl) mX12_last kM_0 clX12 rfl rfl (by decide) (by decide) (Nat.le_of_ble_eq_true rfl) hnc (qX12_last x.2.1 am_N 1900 IM LM r IM' LM' e2) ?_
  exact l_icmp_eq (tgt := 1556) hc dL_law_1325 rfl (fun _ => kk _ _ _ _ hR2) (fun q => absurd rfl q)
set_option maxRecDepth 100000 in
set_option maxHeartbeats 4000000 in
theorem lc_even {x : am_X} {Q : State → Prop} {L : Nat} {xs : Nat → Int32} {Rl : am_Rl} (hc : am_ok x cL_law yL_law 7 (some .boolean) 2048 601024 7293034) (hX : am_sc x L xs) (hp : pd_even Rl) (iv : Int32) (hin1 : vp_in (iv + (1 : Int32)) L) (hin2 : vp_in (iv + (2 : Int32)) L) (hin3 : vp_in (iv + (3 : Int32)) L) (hin4 : vp_in (iv + (4 : Int32)) L) (hin5 : vp_in (iv + (5 : Int32)) L) (al : Bool) (IC : am_I) (LC : am_L) (IM : am_I) (LM : am_L) (o : Int64) (nc ns : Nat) (hnc : nc ≤ 601024 ∧ ns ≤ 7293034) (hR : Rl al IC LC IM LM) (kk : ∀ (IC : am_I) (LC : am_L) (IM : am_I) (LM : am_L), Rl al IC LC IM LM → am_JL x Q 1556 [some (.ref 1000020), some (.ref 500000), some (.ref 500001), some (.ref 500002), some (.int iv), none, none] [] al IC LC IM LM o nc ns) : am_JL x Q 1330 [some (.ref 1000020), some (.ref 500000), some (.ref 500001), some (.ref 500002), some (.int iv), none, none] [] al IC LC IM LM o nc ns := by
  obtain ⟨r, IC', LC', IM', LM', e1, e2, hR2⟩ := hp al IC LC IM LM hR
  refine l_aload_n hc dL_law_1330 rfl ?_
  refine l_callC (As := []) hc dL_law_1331 (am_mem 1274 kv_1274 rfl) mX11_even (kC_0 _) clX11 rfl rfl (by decide) (by decide) (Nat.le_of_ble_eq_true rfl) hnc (qX11_even x.2.1 am_N 1900 IC LC r IC' LC' e1) ?_
  refine l_aload_n hc dL_law_1334 rfl ?_
  refine l_callM (As := []) hc dL_law_1335 (am_mem 2042 kv_2042 rfl) mX12_even kM_0 clX12 rfl rfl (by decide) (by decide) (Nat.le_of_ble_eq_true rfl) hnc (qX12_even x.2.1 am_N 1900 IM LM r IM' LM' e2) ?_
  exact l_icmp_eq (tgt := 1556) hc dL_law_1338 rfl (fun _ => kk _ _ _ _ hR2) (fun q => absurd rfl q)
set_option maxRecDepth 100000 in
set_option maxHeartbeats 4000000 in
theorem lc_sure {x : am_X} {Q : State → Prop} {L : Nat} {xs : Nat → Int32} {Rl : am_Rl} (hc : am_ok x cL_law yL_law 7 (some .boolean) 2048 601024 7293034) (hX : am_sc x L xs) (hp : pd_sure Rl) (iv : Int32) (hin1 : vp_in (iv + (1 : Int32)) L) (hin2 : vp_in (iv + (2 : Int32)) L) (hin3 : vp_in (iv + (3 : Int32)) L) (hin4 : vp_in (iv + (4 : Int32)) L) (hin5 : vp_in (iv + (5 : Int32)) L) (al : Bool) (IC : am_I) (LC : am_L) (IM : am_I) (LM : am_L) (o : Int64) (nc ns : Nat) (hnc : nc ≤ 601024 ∧ ns ≤ 7293034) (hR : Rl al IC LC IM LM) (kk : ∀ (IC : am_I) (LC : am_L) (IM : am_I) (LM : am_L), Rl al IC LC IM LM → am_JL x Q 1556 [some (.ref 1000020), some (.ref 500000), some (.ref 500001), some (.ref 500002), some (.int iv), none, none] [] al IC LC IM LM o nc ns) : am_JL x Q 1405 [some (.ref 1000020), some (.ref 500000), some (.ref 500001), some (.ref 500002), some (.int iv), none, none] [] al IC LC IM LM o nc ns := by
  obtain ⟨r, IC', LC', IM', LM', e1, e2, hR2⟩ := hp al IC LC IM LM (xs (iv + (1 : Int32)).toNatClampNeg) hR
  refine l_aload_n hc dL_law_1405 rfl ?_
  refine l_aload_n hc dL_law_1406 rfl ?_
  refine l_iload hc dL_law_1407 rfl ?_
  refine l_iconst (v := (1 : Int32)) hc dL_law_1409 ci_1 ?_
  refine l_iadd hc dL_law_1410 ?_
  refine l_sld hc hX dL_law_1411 hin1 ?_
  refine l_callC (As := [.int (xs (iv + (1 : Int32)).toNatClampNeg)]) hc dL_law_1412 (am_mem 1375 kv_1375 rfl) mX11_sure (kC_0 _) clX11 rfl rfl (by decide) (by decide) (Nat.le_of_ble_eq_true rfl) hnc (qX11_sure x.2.1 am_N 1900 (xs (iv + (1 : Int32)).toNatClampNeg) IC LC r IC' LC' e1) ?_
  refine l_aload_n hc dL_law_1415 rfl ?_
  refine l_aload_n hc dL_law_1416 rfl ?_
  refine l_iload hc dL_law_1417 rfl ?_
  refine l_iconst (v := (1 : Int32)) hc dL_law_1419 ci_1 ?_
  refine l_iadd hc dL_law_1420 ?_
  refine l_sld hc hX dL_law_1421 hin1 ?_
  refine l_callM (As := [.int (xs (iv + (1 : Int32)).toNatClampNeg)]) hc dL_law_1422 (am_mem 2089 kv_2089 rfl) mX12_sure kM_0 clX12 rfl rfl (by decide) (by decide) (Nat.le_of_ble_eq_true rfl) hnc (qX12_sure x.2.1 am_N 1900 (xs (iv + (1 : Int32)).toNatClampNeg) IM LM r IM' LM' e2) ?_
  exact l_icmp_eq (tgt := 1556) hc dL_law_1425 rfl (fun _ => kk _ _ _ _ hR2) (fun q => absurd rfl q)
set_option maxRecDepth 100000 in
set_option maxHeartbeats 4000000 in
theorem lc_weary {x : am_X} {Q : State → Prop} {L : Nat} {xs : Nat → Int32} {Rl : am_Rl} (hc : am_ok x cL_law yL_law 7 (some .boolean) 2048 601024 7293034) (hX : am_sc x L xs) (hp : pd_weary Rl) (iv : Int32) (hin1 : vp_in (iv + (1 : Int32)) L) (hin2 : vp_in (iv + (2 : Int32)) L) (hin3 : vp_in (iv + (3 : Int32)) L) (hin4 : vp_in (iv + (4 : Int32)) L) (hin5 : vp_in (iv + (5 : Int32)) L) (al : Bool) (IC : am_I) (LC : am_L) (IM : am_I) (LM : am_L) (o : Int64) (nc ns : Nat) (hnc : nc ≤ 601024 ∧ ns ≤ 7293034) (hR : Rl al IC LC IM LM) (kk : ∀ (IC : am_I) (LC : am_L) (IM : am_I) (LM : am_L), Rl al IC LC IM LM → am_JL x Q 1556 [some (.ref 1000020), some (.ref 500000), some (.ref 500001), some (.ref 500002), some (.int iv), none, none] [] al IC LC IM LM o nc ns) : am_JL x Q 1430 [some (.ref 1000020), some (.ref 500000), some (.ref 500001), some (.ref 500002), some (.int iv), none, none] [] al IC LC IM LM o nc ns := by
  obtain ⟨r, IC', LC', IM', LM', e1, e2, hR2⟩ := hp al IC LC IM LM hR
  refine l_aload_n hc dL_law_1430 rfl ?_
  refine l_callC (As := []) hc dL_law_1431 (am_mem 1283 kv_1283 rfl) mX11_weary (kC_0 _) clX11 rfl rfl (by decide) (by decide) (Nat.le_of_ble_eq_true rfl) hnc (qX11_weary x.2.1 am_N 1900 IC LC r IC' LC' e1) ?_
  refine l_aload_n hc dL_law_1434 rfl ?_
  refine l_callM (As := []) hc dL_law_1435 (am_mem 2050 kv_2050 rfl) mX12_weary kM_0 clX12 rfl rfl (by decide) (by decide) (Nat.le_of_ble_eq_true rfl) hnc (qX12_weary x.2.1 am_N 1900 IM LM r IM' LM' e2) ?_
  exact l_icmp_eq (tgt := 1556) hc dL_law_1438 rfl (fun _ => kk _ _ _ _ hR2) (fun q => absurd rfl q)
set_option maxRecDepth 100000 in
set_option maxHeartbeats 4000000 in
theorem lc_ahead {x : am_X} {Q : State → Prop} {L : Nat} {xs : Nat → Int32} {Rl : am_Rl} (hc : am_ok x cL_law yL_law 7 (some .boolean) 2048 601024 7293034) (hX : am_sc x L xs) (hp : pd_ahead Rl) (iv : Int32) (hin1 : vp_in (iv + (1 : Int32)) L) (hin2 : vp_in (iv + (2 : Int32)) L) (hin3 : vp_in (iv + (3 : Int32)) L) (hin4 : vp_in (iv + (4 : Int32)) L) (hin5 : vp_in (iv + (5 : Int32)) L) (al : Bool) (IC : am_I) (LC : am_L) (IM : am_I) (LM : am_L) (o : Int64) (nc ns : Nat) (hnc : nc ≤ 601024 ∧ ns ≤ 7293034) (hR : Rl al IC LC IM LM) (kk : ∀ (IC : am_I) (LC : am_L) (IM : am_I) (LM : am_L), Rl al IC LC IM LM → am_JL x Q 1556 [some (.ref 1000020), some (.ref 500000), some (.ref 500001), some (.ref 500002), some (.int iv), none, none] [] al IC LC IM LM o nc ns) : am_JL x Q 1443 [some (.ref 1000020), some (.ref 500000), some (.ref 500001), some (.ref 500002), some (.int iv), none, none] [] al IC LC IM LM o nc ns := by
  obtain ⟨r, IC', LC', IM', LM', e1, e2, hR2⟩ := hp al IC LC IM LM (xs (iv + (1 : Int32)).toNatClampNeg) hR
  refine l_aload_n hc dL_law_1443 rfl ?_
  refine l_aload_n hc dL_law_1444 rfl ?_
  refine l_iload hc dL_law_1445 rfl ?_
  refine l_iconst (v := (1 : Int32)) hc dL_law_1447 ci_1 ?_
  refine l_iadd hc dL_law_1448 ?_
  refine l_sld hc hX dL_law_1449 hin1 ?_
  refine l_callC (As := [.int (xs (iv + (1 : Int32)).toNatClampNeg)]) hc dL_law_1450 (am_mem 1270 kv_1270 rfl) mX11_ahead (kC_0 _) clX11 rfl rfl (by decide) (by decide) (Nat.le_of_ble_eq_true rfl) hnc (qX11_ahead x.2.1 am_N 1900 (xs (iv + (1 : Int32)).toNatClampNeg) IC LC r IC' LC' e1) ?_
  refine l_aload_n hc dL_law_1453 rfl ?_
  refine l_aload_n hc dL_law_1454 rfl ?_
  refine l_iload hc dL_law_1455 rfl ?_
  refine l_iconst (v := (1 : Int32)) hc dL_law_1457 ci_1 ?_
  refine l_iadd hc dL_law_1458 ?_
  refine l_sld hc hX dL_law_1459 hin1 ?_
  refine l_callM (As := [.int (xs (iv + (1 : Int32)).toNatClampNeg)]) hc dL_law_1460 (am_mem 2038 kv_2038 rfl) mX12_ahead kM_0 clX12 rfl rfl (by decide) (by decide) (Nat.le_of_ble_eq_true rfl) hnc (qX12_ahead x.2.1 am_N 1900 (xs (iv + (1 : Int32)).toNatClampNeg) IM LM r IM' LM' e2) ?_
  exact l_icmp_eq (tgt := 1556) hc dL_law_1463 rfl (fun _ => kk _ _ _ _ hR2) (fun q => absurd rfl q)
set_option maxRecDepth 100000 in
set_option maxHeartbeats 4000000 in
theorem lc_meeting {x : am_X} {Q : State → Prop} {L : Nat} {xs : Nat → Int32} {Rl : am_Rl} (hc : am_ok x cL_law yL_law 7 (some .boolean) 2048 601024 7293034) (hX : am_sc x L xs) (hp : pd_meeting Rl) (iv : Int32) (hin1 : vp_in (iv + (1 : Int32)) L) (hin2 : vp_in (iv + (2 : Int32)) L) (hin3 : vp_in (iv + (3 : Int32)) L) (hin4 : vp_in (iv + (4 : Int32)) L) (hin5 : vp_in (iv + (5 : Int32)) L) (al : Bool) (IC : am_I) (LC : am_L) (IM : am_I) (LM : am_L) (o : Int64) (nc ns : Nat) (hnc : nc ≤ 601024 ∧ ns ≤ 7293034) (hR : Rl al IC LC IM LM) (kk : ∀ (IC : am_I) (LC : am_L) (IM : am_I) (LM : am_L), Rl al IC LC IM LM → am_JL x Q 1556 [some (.ref 1000020), some (.ref 500000), some (.ref 500001), some (.ref 500002), some (.int iv), none, none] [] al IC LC IM LM o nc ns) : am_JL x Q 1468 [some (.ref 1000020), some (.ref 500000), some (.ref 500001), some (.ref 500002), some (.int iv), none, none] [] al IC LC IM LM o nc ns := by
  obtain ⟨r, IC', LC', IM', LM', e1, e2, hR2⟩ := hp al IC LC IM LM (xs (iv + (1 : Int32)).toNatClampNeg) (xs (iv + (2 : Int32)).toNatClampNeg) hR
  refine l_aload_n hc dL_law_1468 rfl ?_
  refine l_aload_n hc dL_law_1469 rfl ?_
  refine l_iload hc dL_law_1470 rfl ?_
  refine l_iconst (v := (1 : Int32)) hc dL_law_1472 ci_1 ?_
  refine l_iadd hc dL_law_1473 ?_
  refine l_sld hc hX dL_law_1474 hin1 ?_
  refine l_aload_n hc dL_law_1475 rfl ?_
  refine l_iload hc dL_law_1476 rfl ?_
  refine l_iconst (v := (2 : Int32)) hc dL_law_1478 ci_2 ?_
  refine l_iadd hc dL_law_1479 ?_
  refine l_sld hc hX dL_law_1480 hin2 ?_
  refine l_callC (As := [.int (xs (iv + (1 : Int32)).toNatClampNeg), .int (xs (iv + (2 : Int32)).toNatClampNeg)]) hc dL_law_1481 (am_mem 1278 kv_1278 rfl) mX11_meeting (kC_0 _) clX11 rfl rfl (by decide) (by decide) (Nat.le_of_ble_eq_true rfl) hnc (qX11_meeting x.2.1 am_N 1900 (xs (iv + (1 : Int32)).toNatClampNeg) (xs (iv + (2 : Int32)).toNatClampNeg) IC LC r IC' LC' e1) ?_
  refine l_aload_n hc dL_law_1484 rfl ?_
  refine l_aload_n hc dL_law_1485 rfl ?_
  refine l_iload hc dL_law_1486 rfl ?_
  refine l_iconst (v := (1 : Int32)) hc dL_law_1488 ci_1 ?_
  refine l_iadd hc dL_law_1489 ?_
  refine l_sld hc hX dL_law_1490 hin1 ?_
  refine l_aload_n hc dL_law_1491 rfl ?_
  refine l_iload hc dL_law_1492 rfl ?_
  refine l_iconst (v := (2 : Int32)) hc dL_law_1494 ci_2 ?_
  refine l_iadd hc dL_law_1495 ?_
  refine l_sld hc hX dL_law_1496 hin2 ?_
  refine l_callM (As := [.int (xs (iv + (1 : Int32)).toNatClampNeg), .int (xs (iv + (2 : Int32)).toNatClampNeg)]) hc dL_law_1497 (am_mem 2046 kv_2046 rfl) mX12_meeting kM_0 clX12 rfl rfl (by decide) (by decide) (Nat.le_of_ble_eq_true rfl) hnc (qX12_meeting x.2.1 am_N 1900 (xs (iv + (1 : Int32)).toNatClampNeg) (xs (iv + (2 : Int32)).toNatClampNeg) IM LM r IM' LM' e2) ?_
  exact l_icmp_eq (tgt := 1556) hc dL_law_1500 rfl (fun _ => kk _ _ _ _ hR2) (fun q => absurd rfl q)
set_option maxRecDepth 100000 in
set_option maxHeartbeats 4000000 in
theorem lc_image {x : am_X} {Q : State → Prop} {L : Nat} {xs : Nat → Int32} {Rl : am_Rl} (hc : am_ok x cL_law yL_law 7 (some .boolean) 2048 601024 7293034) (hX : am_sc x L xs) (hp : pd_image Rl) (iv : Int32) (hin1 : vp_in (iv + (1 : Int32)) L) (hin2 : vp_in (iv + (2 : Int32)) L) (hin3 : vp_in (iv + (3 : Int32)) L) (hin4 : vp_in (iv + (4 : Int32)) L) (hin5 : vp_in (iv + (5 : Int32)) L) (al : Bool) (IC : am_I) (LC : am_L) (IM : am_I) (LM : am_L) (o : Int64) (nc ns : Nat) (hnc : nc ≤ 601024 ∧ ns ≤ 7293034) (hR : Rl al IC LC IM LM) (kk : ∀ (IC : am_I) (LC : am_L) (IM : am_I) (LM : am_L), Rl al IC LC IM LM → am_JL x Q 1556 [some (.ref 1000020), some (.ref 500000), some (.ref 500001), some (.ref 500002), some (.int iv), none, none] [] al IC LC IM LM o nc ns) : am_JL x Q 1505 [some (.ref 1000020), some (.ref 500000), some (.ref 500001), some (.ref 500002), some (.int iv), none, none] [] al IC LC IM LM o nc ns := by
  obtain ⟨r, IC', LC', IM', LM', e1, e2, hR2⟩ := hp al IC LC IM LM hR
  refine l_aload_n hc dL_law_1505 rfl ?_
  refine l_callC (As := []) hc dL_law_1506 (am_mem 1052 kv_1052 rfl) mX11_image (kC_0 _) clX11 rfl rfl (by decide) (by decide) (Nat.le_of_ble_eq_true rfl) hnc (qX11_image x.2.1 am_N 1900 IC LC r IC' LC' e1) ?_
  refine l_aload_n hc dL_law_1509 rfl ?_
  refine l_callM (As := []) hc dL_law_1510 (am_mem 2107 kv_2107 rfl) mX12_image kM_0 clX12 rfl rfl (by decide) (by decide) (Nat.le_of_ble_eq_true rfl) hnc (qX12_image x.2.1 am_N 1900 IM LM r IM' LM' e2) ?_
  exact l_icmp_eq (tgt := 1556) hc dL_law_1513 rfl (fun _ => kk _ _ _ _ hR2) (fun q => absurd rfl q)
set_option maxRecDepth 100000 in
set_option maxHeartbeats 4000000 in
theorem lc_back {x : am_X} {Q : State → Prop} {L : Nat} {xs : Nat → Int32} {Rl : am_Rl} (hc : am_ok x cL_law yL_law 7 (some .boolean) 2048 601024 7293034) (hX : am_sc x L xs) (hp : pd_back Rl) (iv : Int32) (hin1 : vp_in (iv + (1 : Int32)) L) (hin2 : vp_in (iv + (2 : Int32)) L) (hin3 : vp_in (iv + (3 : Int32)) L) (hin4 : vp_in (iv + (4 : Int32)) L) (hin5 : vp_in (iv + (5 : Int32)) L) (al : Bool) (IC : am_I) (LC : am_L) (IM : am_I) (LM : am_L) (o : Int64) (nc ns : Nat) (hnc : nc ≤ 601024 ∧ ns ≤ 7293034) (hR : Rl al IC LC IM LM) (kk : ∀ (IC : am_I) (LC : am_L) (IM : am_I) (LM : am_L), Rl al IC LC IM LM → am_JL x Q 1556 [some (.ref 1000020), some (.ref 500000), some (.ref 500001), some (.ref 500002), some (.int iv), none, none] [] al IC LC IM LM o nc ns) : am_JL x Q 1518 [some (.ref 1000020), some (.ref 500000), some (.ref 500001), some (.ref 500002), some (.int iv), none, none] [] al IC LC IM LM o nc ns := by
  obtain ⟨r, IC', LC', IM', LM', e1, e2, hR2⟩ := hp al IC LC IM LM hR
  refine l_aload_n hc dL_law_1518 rfl ?_
  refine l_callC (As := []) hc dL_law_1519 (am_mem 1066 kv_1066 rfl) mX11_back (kC_0 _) clX11 rfl rfl (by decide) (by decide) (Nat.le_of_ble_eq_true rfl) hnc (qX11_back x.2.1 am_N 1900 IC LC r IC' LC' e1) ?_
  refine l_aload_n hc dL_law_1522 rfl ?_
  refine l_callM (As := []) hc dL_law_1523 (am_mem 2111 kv_2111 rfl) mX12_back kM_0 clX12 rfl rfl (by decide) (by decide) (Nat.le_of_ble_eq_true rfl) hnc (qX12_back x.2.1 am_N 1900 IM LM r IM' LM' e2) ?_
  exact l_icmp_eq (tgt := 1556) hc dL_law_1526 rfl (fun _ => kk _ _ _ _ hR2) (fun q => absurd rfl q)
set_option maxRecDepth 100000 in
set_option maxHeartbeats 4000000 in
theorem lc_count {x : am_X} {Q : State → Prop} {L : Nat} {xs : Nat → Int32} {Rl : am_Rl} (hc : am_ok x cL_law yL_law 7 (some .boolean) 2048 601024 7293034) (hX : am_sc x L xs) (hp : pd_count Rl) (iv : Int32) (hin1 : vp_in (iv + (1 : Int32)) L) (hin2 : vp_in (iv + (2 : Int32)) L) (hin3 : vp_in (iv + (3 : Int32)) L) (hin4 : vp_in (iv + (4 : Int32)) L) (hin5 : vp_in (iv + (5 : Int32)) L) (al : Bool) (IC : am_I) (LC : am_L) (IM : am_I) (LM : am_L) (o : Int64) (nc ns : Nat) (hnc : nc ≤ 601024 ∧ ns ≤ 7293034) (hR : Rl al IC LC IM LM) (kk : ∀ (IC : am_I) (LC : am_L) (IM : am_I) (LM : am_L), Rl al IC LC IM LM → am_JL x Q 1556 [some (.ref 1000020), some (.ref 500000), some (.ref 500001), some (.ref 500002), some (.int iv), none, none] [] al IC LC IM LM o nc ns) : am_JL x Q 1531 [some (.ref 1000020), some (.ref 500000), some (.ref 500001), some (.ref 500002), some (.int iv), none, none] [] al IC LC IM LM o nc ns := by
  obtain ⟨r, IC', LC', IM', LM', e1, e2, hR2⟩ := hp al IC LC IM LM (xs (iv + (1 : Int32)).toNatClampNeg) hR
  refine l_aload_n hc dL_law_1531 rfl ?_
  refine l_aload_n hc dL_law_1532 rfl ?_
  refine l_iload hc dL_law_1533 rfl ?_
  refine l_iconst (v := (1 : Int32)) hc dL_law_1535 ci_1 ?_
  refine l_iadd hc dL_law_1536 ?_
  refine l_sld hc hX dL_law_1537 hin1 ?_
  refine l_callC (As := [.int (xs (iv + (1 : Int32)).toNatClampNeg)]) hc dL_law_1538 (am_mem 881 kv_881 rfl) mX11_count (kC_0 _) clX11 rfl rfl (by decide) (by decide) (Nat.le_of_ble_eq_true rfl) hnc (qX11_count x.2.1 am_N 1900 (xs (iv + (1 : Int32)).toNatClampNeg) IC LC r IC' LC' e1) ?_
  refine l_aload_n hc dL_law_1541 rfl ?_
  refine l_aload_n hc dL_law_1542 rfl ?_
  refine l_iload hc dL_law_1543 rfl ?_
  refine l_iconst (v := (1 : Int32)) hc dL_law_1545 ci_1 ?_
  refine l_iadd hc dL_law_1546 ?_
  refine l_sld hc hX dL_law_1547 hin1 ?_
  refine l_callM (As := [.int (xs (iv + (1 : Int32)).toNatClampNeg)]) hc dL_law_1548 (am_mem 2115 kv_2115 rfl) mX12_count kM_0 clX12 rfl rfl (by decide) (by decide) (Nat.le_of_ble_eq_true rfl) hnc (qX12_count x.2.1 am_N 1900 (xs (iv + (1 : Int32)).toNatClampNeg) IM LM r IM' LM' e2) ?_
  exact l_icmp_eq (tgt := 1556) hc dL_law_1551 rfl (fun _ => kk _ _ _ _ hR2) (fun q => absurd rfl q)
