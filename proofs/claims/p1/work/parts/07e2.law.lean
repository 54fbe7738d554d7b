set_option maxRecDepth 20000 in
theorem ggL_law_X11_init : GoodIn wsL_law wsX11_init := sorry
set_option maxRecDepth 20000 in
theorem gL_law_X11_init : GoodIn wsL_law (wsX11_init) := ggL_law_X11_init
set_option maxRecDepth 20000 in
theorem ggL_law_X12_init : GoodIn wsL_law wsX12_init := sorry
set_option maxRecDepth 20000 in
theorem gL_law_X12_init : GoodIn wsL_law (wsX12_init) := ggL_law_X12_init
set_option maxRecDepth 20000 in
theorem ggL_law_L_feed : GoodIn wsL_law wsL_feed := sorry
set_option maxRecDepth 20000 in
theorem gL_law_L_feed : GoodIn wsL_law (va_wsS RL 132 yL_feed wsL_feed) := goodIn_app (goodIn_of _ (by decide +kernel)) ggL_law_L_feed
set_option maxRecDepth 20000 in
theorem ggL_law_X12_feed : GoodIn wsL_law wsX12_feed := sorry
set_option maxRecDepth 20000 in
theorem gL_law_X12_feed : GoodIn wsL_law (wsV RL 137 RX12 yX12_feed wsX12_feed) := goodIn_app (goodIn_of _ (by decide +kernel)) ggL_law_X12_feed
set_option maxRecDepth 20000 in
theorem ggL_law_X12_thrown : GoodIn wsL_law wsX12_thrown := sorry
set_option maxRecDepth 20000 in
theorem gL_law_X12_thrown : GoodIn wsL_law (wsV RL 138 RX12 yX12_thrown wsX12_thrown) := goodIn_app (goodIn_of _ (by decide +kernel)) ggL_law_X12_thrown
set_option maxRecDepth 20000 in
theorem ggL_law_L_addLetter : GoodIn wsL_law wsL_addLetter := sorry
set_option maxRecDepth 20000 in
theorem gL_law_L_addLetter : GoodIn wsL_law (va_wsS RL 141 yL_addLetter wsL_addLetter) := goodIn_app (goodIn_of _ (by decide +kernel)) ggL_law_L_addLetter
set_option maxRecDepth 20000 in
theorem ggL_law_X12_addLetter : GoodIn wsL_law wsX12_addLetter := sorry
set_option maxRecDepth 20000 in
theorem gL_law_X12_addLetter : GoodIn wsL_law (wsV RL 144 RX12 yX12_addLetter wsX12_addLetter) := goodIn_app (goodIn_of _ (by decide +kernel)) ggL_law_X12_addLetter
set_option maxRecDepth 20000 in
theorem ggL_law_L_moveLetter : GoodIn wsL_law wsL_moveLetter := sorry
set_option maxRecDepth 20000 in
theorem gL_law_L_moveLetter : GoodIn wsL_law (va_wsS RL 145 yL_moveLetter wsL_moveLetter) := goodIn_app (goodIn_of _ (by decide +kernel)) ggL_law_L_moveLetter
set_option maxRecDepth 20000 in
theorem ggL_law_X12_moveLetter : GoodIn wsL_law wsX12_moveLetter := sorry
set_option maxRecDepth 20000 in
theorem gL_law_X12_moveLetter : GoodIn wsL_law (wsV RL 148 RX12 yX12_moveLetter wsX12_moveLetter) := goodIn_app (goodIn_of _ (by decide +kernel)) ggL_law_X12_moveLetter
set_option maxRecDepth 20000 in
theorem ggL_law_L_letter : GoodIn wsL_law wsL_letter := sorry
set_option maxRecDepth 20000 in
theorem gL_law_L_letter : GoodIn wsL_law (va_wsS RL 149 yL_letter wsL_letter) := goodIn_app (goodIn_of _ (by decide +kernel)) ggL_law_L_letter
set_option maxRecDepth 20000 in
theorem ggL_law_X12_letter : GoodIn wsL_law wsX12_letter := sorry
set_option maxRecDepth 20000 in
theorem gL_law_X12_letter : GoodIn wsL_law (wsV RL 152 RX12 yX12_letter wsX12_letter) := goodIn_app (goodIn_of _ (by decide +kernel)) ggL_law_X12_letter
set_option maxRecDepth 20000 in
theorem ggL_law_L_add : GoodIn wsL_law wsL_add := sorry
set_option maxRecDepth 20000 in
theorem gL_law_L_add : GoodIn wsL_law (va_wsS RL 153 yL_add wsL_add) := goodIn_app (goodIn_of _ (by decide +kernel)) ggL_law_L_add
set_option maxRecDepth 20000 in
theorem ggL_law_X12_add : GoodIn wsL_law wsX12_add := sorry
set_option maxRecDepth 20000 in
theorem gL_law_X12_add : GoodIn wsL_law (wsV RL 156 RX12 yX12_add wsX12_add) := goodIn_app (goodIn_of _ (by decide +kernel)) ggL_law_X12_add
set_option maxRecDepth 20000 in
theorem ggL_law_L_addVariant : GoodIn wsL_law wsL_addVariant := sorry
set_option maxRecDepth 20000 in
theorem gL_law_L_addVariant : GoodIn wsL_law (va_wsS RL 157 yL_addVariant wsL_addVariant) := goodIn_app (goodIn_of _ (by decide +kernel)) ggL_law_L_addVariant
set_option maxRecDepth 20000 in
theorem ggL_law_X12_addVariant : GoodIn wsL_law wsX12_addVariant := sorry
set_option maxRecDepth 20000 in
theorem gL_law_X12_addVariant : GoodIn wsL_law (wsV RL 160 RX12 yX12_addVariant wsX12_addVariant) := goodIn_app (goodIn_of _ (by decide +kernel)) ggL_law_X12_addVariant
set_option maxRecDepth 20000 in
theorem ggL_law_L_rename : GoodIn wsL_law wsL_rename := sorry
set_option maxRecDepth 20000 in
theorem gL_law_L_rename : GoodIn wsL_law (va_wsS RL 161 yL_rename wsL_rename) := goodIn_app (goodIn_of _ (by decide +kernel)) ggL_law_L_rename
set_option maxRecDepth 20000 in
theorem ggL_law_X12_rename : GoodIn wsL_law wsX12_rename := sorry
set_option maxRecDepth 20000 in
theorem gL_law_X12_rename : GoodIn wsL_law (wsV RL 163 RX12 yX12_rename wsX12_rename) := goodIn_app (goodIn_of _ (by decide +kernel)) ggL_law_X12_rename
set_option maxRecDepth 20000 in
theorem ggL_law_L_promote : GoodIn wsL_law wsL_promote := sorry
set_option maxRecDepth 20000 in
theorem gL_law_L_promote : GoodIn wsL_law (va_wsS RL 164 yL_promote wsL_promote) := goodIn_app (goodIn_of _ (by decide +kernel)) ggL_law_L_promote
set_option maxRecDepth 20000 in
theorem ggL_law_X12_promote : GoodIn wsL_law wsX12_promote := sorry
set_option maxRecDepth 20000 in
theorem gL_law_X12_promote : GoodIn wsL_law (wsV RL 166 RX12 yX12_promote wsX12_promote) := goodIn_app (goodIn_of _ (by decide +kernel)) ggL_law_X12_promote
set_option maxRecDepth 20000 in
theorem ggL_law_L_removeVariant : GoodIn wsL_law wsL_removeVariant := sorry
set_option maxRecDepth 20000 in
theorem gL_law_L_removeVariant : GoodIn wsL_law (va_wsS RL 167 yL_removeVariant wsL_removeVariant) := goodIn_app (goodIn_of _ (by decide +kernel)) ggL_law_L_removeVariant
set_option maxRecDepth 20000 in
theorem ggL_law_X12_removeVariant : GoodIn wsL_law wsX12_removeVariant := sorry
set_option maxRecDepth 20000 in
theorem gL_law_X12_removeVariant : GoodIn wsL_law (wsV RL 169 RX12 yX12_removeVariant wsX12_removeVariant) := goodIn_app (goodIn_of _ (by decide +kernel)) ggL_law_X12_removeVariant
set_option maxRecDepth 20000 in
theorem ggL_law_L_remove : GoodIn wsL_law wsL_remove := sorry
set_option maxRecDepth 20000 in
theorem gL_law_L_remove : GoodIn wsL_law (va_wsS RL 170 yL_remove wsL_remove) := goodIn_app (goodIn_of _ (by decide +kernel)) ggL_law_L_remove
set_option maxRecDepth 20000 in
theorem ggL_law_X12_remove : GoodIn wsL_law wsX12_remove := sorry
set_option maxRecDepth 20000 in
theorem gL_law_X12_remove : GoodIn wsL_law (wsV RL 172 RX12 yX12_remove wsX12_remove) := goodIn_app (goodIn_of _ (by decide +kernel)) ggL_law_X12_remove
set_option maxRecDepth 20000 in
theorem ggL_law_L_join : GoodIn wsL_law wsL_join := sorry
set_option maxRecDepth 20000 in
theorem gL_law_L_join : GoodIn wsL_law (va_wsS RL 173 yL_join wsL_join) := goodIn_app (goodIn_of _ (by decide +kernel)) ggL_law_L_join
set_option maxRecDepth 20000 in
theorem ggL_law_X12_join : GoodIn wsL_law wsX12_join := sorry
set_option maxRecDepth 20000 in
theorem gL_law_X12_join : GoodIn wsL_law (wsV RL 175 RX12 yX12_join wsX12_join) := goodIn_app (goodIn_of _ (by decide +kernel)) ggL_law_X12_join
set_option maxRecDepth 20000 in
theorem ggL_law_L_find : GoodIn wsL_law wsL_find := sorry
set_option maxRecDepth 20000 in
theorem gL_law_L_find : GoodIn wsL_law (va_wsS RL 176 yL_find wsL_find) := goodIn_app (goodIn_of _ (by decide +kernel)) ggL_law_L_find
set_option maxRecDepth 20000 in
theorem ggL_law_X12_find : GoodIn wsL_law wsX12_find := sorry
set_option maxRecDepth 20000 in
theorem gL_law_X12_find : GoodIn wsL_law (wsV RL 178 RX12 yX12_find wsX12_find) := goodIn_app (goodIn_of _ (by decide +kernel)) ggL_law_X12_find
set_option maxRecDepth 20000 in
theorem ggL_law_L_headword : GoodIn wsL_law wsL_headword := sorry
set_option maxRecDepth 20000 in
theorem gL_law_L_headword : GoodIn wsL_law (va_wsS RL 179 yL_headword wsL_headword) := goodIn_app (goodIn_of _ (by decide +kernel)) ggL_law_L_headword
set_option maxRecDepth 20000 in
theorem ggL_law_X12_headword : GoodIn wsL_law wsX12_headword := sorry
set_option maxRecDepth 20000 in
theorem gL_law_X12_headword : GoodIn wsL_law (wsV RL 181 RX12 yX12_headword wsX12_headword) := goodIn_app (goodIn_of _ (by decide +kernel)) ggL_law_X12_headword
set_option maxRecDepth 20000 in
theorem ggL_law_L_letterOf : GoodIn wsL_law wsL_letterOf := sorry
set_option maxRecDepth 20000 in
theorem gL_law_L_letterOf : GoodIn wsL_law (va_wsS RL 182 yL_letterOf wsL_letterOf) := goodIn_app (goodIn_of _ (by decide +kernel)) ggL_law_L_letterOf
set_option maxRecDepth 20000 in
theorem ggL_law_X12_letterOf : GoodIn wsL_law wsX12_letterOf := sorry
set_option maxRecDepth 20000 in
theorem gL_law_X12_letterOf : GoodIn wsL_law (wsV RL 185 RX12 yX12_letterOf wsX12_letterOf) := goodIn_app (goodIn_of _ (by decide +kernel)) ggL_law_X12_letterOf
set_option maxRecDepth 20000 in
theorem ggL_law_L_ordered : GoodIn wsL_law wsL_ordered := sorry
set_option maxRecDepth 20000 in
theorem gL_law_L_ordered : GoodIn wsL_law (va_wsS RL 186 yL_ordered wsL_ordered) := goodIn_app (goodIn_of _ (by decide +kernel)) ggL_law_L_ordered
set_option maxRecDepth 20000 in
theorem ggL_law_X12_ordered : GoodIn wsL_law wsX12_ordered := sorry
set_option maxRecDepth 20000 in
theorem gL_law_X12_ordered : GoodIn wsL_law (wsV RL 188 RX12 yX12_ordered wsX12_ordered) := goodIn_app (goodIn_of _ (by decide +kernel)) ggL_law_X12_ordered
set_option maxRecDepth 20000 in
theorem ggL_law_L_compare : GoodIn wsL_law wsL_compare := sorry
set_option maxRecDepth 20000 in
theorem gL_law_L_compare : GoodIn wsL_law (va_wsS RL 189 yL_compare wsL_compare) := goodIn_app (goodIn_of _ (by decide +kernel)) ggL_law_L_compare
set_option maxRecDepth 20000 in
theorem ggL_law_X12_compare : GoodIn wsL_law wsX12_compare := sorry
set_option maxRecDepth 20000 in
theorem gL_law_X12_compare : GoodIn wsL_law (wsV RL 192 RX12 yX12_compare wsX12_compare) := goodIn_app (goodIn_of _ (by decide +kernel)) ggL_law_X12_compare
set_option maxRecDepth 20000 in
theorem ggL_law_L_refer : GoodIn wsL_law wsL_refer := sorry
set_option maxRecDepth 20000 in
theorem gL_law_L_refer : GoodIn wsL_law (va_wsS RL 193 yL_refer wsL_refer) := goodIn_app (goodIn_of _ (by decide +kernel)) ggL_law_L_refer
set_option maxRecDepth 20000 in
theorem ggL_law_X12_refer : GoodIn wsL_law wsX12_refer := sorry
set_option maxRecDepth 20000 in
theorem gL_law_X12_refer : GoodIn wsL_law (wsV RL 195 RX12 yX12_refer wsX12_refer) := goodIn_app (goodIn_of _ (by decide +kernel)) ggL_law_X12_refer
set_option maxRecDepth 20000 in
theorem ggL_law_L_steps : GoodIn wsL_law wsL_steps := sorry
set_option maxRecDepth 20000 in
theorem gL_law_L_steps : GoodIn wsL_law (va_wsS RL 196 yL_steps wsL_steps) := goodIn_app (goodIn_of _ (by decide +kernel)) ggL_law_L_steps
set_option maxRecDepth 20000 in
theorem ggL_law_X12_steps : GoodIn wsL_law wsX12_steps := sorry
set_option maxRecDepth 20000 in
theorem gL_law_X12_steps : GoodIn wsL_law (wsV RL 198 RX12 yX12_steps wsX12_steps) := goodIn_app (goodIn_of _ (by decide +kernel)) ggL_law_X12_steps
set_option maxRecDepth 20000 in
theorem ggL_law_L_addRule : GoodIn wsL_law wsL_addRule := sorry
set_option maxRecDepth 20000 in
theorem gL_law_L_addRule : GoodIn wsL_law (va_wsS RL 199 yL_addRule wsL_addRule) := goodIn_app (goodIn_of _ (by decide +kernel)) ggL_law_L_addRule
set_option maxRecDepth 20000 in
theorem ggL_law_X12_addRule : GoodIn wsL_law wsX12_addRule := sorry
set_option maxRecDepth 20000 in
theorem gL_law_X12_addRule : GoodIn wsL_law (wsV RL 201 RX12 yX12_addRule wsX12_addRule) := goodIn_app (goodIn_of _ (by decide +kernel)) ggL_law_X12_addRule
set_option maxRecDepth 20000 in
theorem ggL_law_L_exchange : GoodIn wsL_law wsL_exchange := sorry
set_option maxRecDepth 20000 in
theorem gL_law_L_exchange : GoodIn wsL_law (va_wsS RL 202 yL_exchange wsL_exchange) := goodIn_app (goodIn_of _ (by decide +kernel)) ggL_law_L_exchange
set_option maxRecDepth 20000 in
theorem ggL_law_X12_exchange : GoodIn wsL_law wsX12_exchange := sorry
set_option maxRecDepth 20000 in
theorem gL_law_X12_exchange : GoodIn wsL_law (wsV RL 204 RX12 yX12_exchange wsX12_exchange) := goodIn_app (goodIn_of _ (by decide +kernel)) ggL_law_X12_exchange
set_option maxRecDepth 20000 in
theorem ggL_law_L_removeRule : GoodIn wsL_law wsL_removeRule := sorry
set_option maxRecDepth 20000 in
theorem gL_law_L_removeRule : GoodIn wsL_law (va_wsS RL 205 yL_removeRule wsL_removeRule) := goodIn_app (goodIn_of _ (by decide +kernel)) ggL_law_L_removeRule
set_option maxRecDepth 20000 in
theorem ggL_law_X12_removeRule : GoodIn wsL_law wsX12_removeRule := sorry
set_option maxRecDepth 20000 in
theorem gL_law_X12_removeRule : GoodIn wsL_law (wsV RL 207 RX12 yX12_removeRule wsX12_removeRule) := goodIn_app (goodIn_of _ (by decide +kernel)) ggL_law_X12_removeRule
set_option maxRecDepth 20000 in
theorem ggL_law_L_rule : GoodIn wsL_law wsL_rule := sorry
set_option maxRecDepth 20000 in
theorem gL_law_L_rule : GoodIn wsL_law (va_wsS RL 208 yL_rule wsL_rule) := goodIn_app (goodIn_of _ (by decide +kernel)) ggL_law_L_rule
set_option maxRecDepth 20000 in
theorem ggL_law_X12_rule : GoodIn wsL_law wsX12_rule := sorry
set_option maxRecDepth 20000 in
theorem gL_law_X12_rule : GoodIn wsL_law (wsV RL 210 RX12 yX12_rule wsX12_rule) := goodIn_app (goodIn_of _ (by decide +kernel)) ggL_law_X12_rule
set_option maxRecDepth 20000 in
theorem ggL_law_L_derived : GoodIn wsL_law wsL_derived := sorry
set_option maxRecDepth 20000 in
theorem gL_law_L_derived : GoodIn wsL_law (va_wsS RL 211 yL_derived wsL_derived) := goodIn_app (goodIn_of _ (by decide +kernel)) ggL_law_L_derived
set_option maxRecDepth 20000 in
theorem ggL_law_X12_derived : GoodIn wsL_law wsX12_derived := sorry
set_option maxRecDepth 20000 in
theorem gL_law_X12_derived : GoodIn wsL_law (wsV RL 213 RX12 yX12_derived wsX12_derived) := goodIn_app (goodIn_of _ (by decide +kernel)) ggL_law_X12_derived
set_option maxRecDepth 20000 in
theorem ggL_law_L_by : GoodIn wsL_law wsL_by := sorry
set_option maxRecDepth 20000 in
theorem gL_law_L_by : GoodIn wsL_law (va_wsS RL 214 yL_by wsL_by) := goodIn_app (goodIn_of _ (by decide +kernel)) ggL_law_L_by
set_option maxRecDepth 20000 in
theorem ggL_law_X12_by : GoodIn wsL_law wsX12_by := sorry
set_option maxRecDepth 20000 in
theorem gL_law_X12_by : GoodIn wsL_law (wsV RL 216 RX12 yX12_by wsX12_by) := goodIn_app (goodIn_of _ (by decide +kernel)) ggL_law_X12_by
set_option maxRecDepth 20000 in
theorem ggL_law_L_proves : GoodIn wsL_law wsL_proves := sorry
set_option maxRecDepth 20000 in
theorem gL_law_L_proves : GoodIn wsL_law (va_wsS RL 217 yL_proves wsL_proves) := goodIn_app (goodIn_of _ (by decide +kernel)) ggL_law_L_proves
set_option maxRecDepth 20000 in
theorem ggL_law_X12_proves : GoodIn wsL_law wsX12_proves := sorry
set_option maxRecDepth 20000 in
theorem gL_law_X12_proves : GoodIn wsL_law (wsV RL 219 RX12 yX12_proves wsX12_proves) := goodIn_app (goodIn_of _ (by decide +kernel)) ggL_law_X12_proves
set_option maxRecDepth 20000 in
theorem ggL_law_L_report : GoodIn wsL_law wsL_report := sorry
set_option maxRecDepth 20000 in
theorem gL_law_L_report : GoodIn wsL_law (va_wsS RL 220 yL_report wsL_report) := goodIn_app (goodIn_of _ (by decide +kernel)) ggL_law_L_report
set_option maxRecDepth 20000 in
theorem ggL_law_X12_report : GoodIn wsL_law wsX12_report := sorry
set_option maxRecDepth 20000 in
theorem gL_law_X12_report : GoodIn wsL_law (wsV RL 222 RX12 yX12_report wsX12_report) := goodIn_app (goodIn_of _ (by decide +kernel)) ggL_law_X12_report
set_option maxRecDepth 20000 in
theorem ggL_law_L_account : GoodIn wsL_law wsL_account := sorry
set_option maxRecDepth 20000 in
theorem gL_law_L_account : GoodIn wsL_law (va_wsS RL 223 yL_account wsL_account) := goodIn_app (goodIn_of _ (by decide +kernel)) ggL_law_L_account
set_option maxRecDepth 20000 in
theorem ggL_law_X12_account : GoodIn wsL_law wsX12_account := sorry
set_option maxRecDepth 20000 in
theorem gL_law_X12_account : GoodIn wsL_law (wsV RL 225 RX12 yX12_account wsX12_account) := goodIn_app (goodIn_of _ (by decide +kernel)) ggL_law_X12_account
set_option maxRecDepth 20000 in
theorem ggL_law_L_meanLength : GoodIn wsL_law wsL_meanLength := sorry
set_option maxRecDepth 20000 in
theorem gL_law_L_meanLength : GoodIn wsL_law (va_wsS RL 226 yL_meanLength wsL_meanLength) := goodIn_app (goodIn_of _ (by decide +kernel)) ggL_law_L_meanLength
set_option maxRecDepth 20000 in
theorem ggL_law_X12_meanLength : GoodIn wsL_law wsX12_meanLength := sorry
set_option maxRecDepth 20000 in
theorem gL_law_X12_meanLength : GoodIn wsL_law (wsV RL 229 RX12 yX12_meanLength wsX12_meanLength) := goodIn_app (goodIn_of _ (by decide +kernel)) ggL_law_X12_meanLength
set_option maxRecDepth 20000 in
theorem ggL_law_L_changedShare : GoodIn wsL_law wsL_changedShare := sorry
set_option maxRecDepth 20000 in
theorem gL_law_L_changedShare : GoodIn wsL_law (va_wsS RL 230 yL_changedShare wsL_changedShare) := goodIn_app (goodIn_of _ (by decide +kernel)) ggL_law_L_changedShare
set_option maxRecDepth 20000 in
theorem ggL_law_X12_changedShare : GoodIn wsL_law wsX12_changedShare := sorry
set_option maxRecDepth 20000 in
theorem gL_law_X12_changedShare : GoodIn wsL_law (wsV RL 232 RX12 yX12_changedShare wsX12_changedShare) := goodIn_app (goodIn_of _ (by decide +kernel)) ggL_law_X12_changedShare
set_option maxRecDepth 20000 in
theorem ggL_law_L_perform : GoodIn wsL_law wsL_perform := sorry
set_option maxRecDepth 20000 in
theorem gL_law_L_perform : GoodIn wsL_law (va_wsS RL 233 yL_perform wsL_perform) := goodIn_app (goodIn_of _ (by decide +kernel)) ggL_law_L_perform
set_option maxRecDepth 20000 in
theorem ggL_law_X12_perform : GoodIn wsL_law wsX12_perform := sorry
set_option maxRecDepth 20000 in
theorem gL_law_X12_perform : GoodIn wsL_law (wsV RL 235 RX12 yX12_perform wsX12_perform) := goodIn_app (goodIn_of _ (by decide +kernel)) ggL_law_X12_perform
set_option maxRecDepth 20000 in
theorem ggL_law_L_undo : GoodIn wsL_law wsL_undo := sorry
set_option maxRecDepth 20000 in
theorem gL_law_L_undo : GoodIn wsL_law (va_wsS RL 236 yL_undo wsL_undo) := goodIn_app (goodIn_of _ (by decide +kernel)) ggL_law_L_undo
set_option maxRecDepth 20000 in
theorem ggL_law_X12_undo : GoodIn wsL_law wsX12_undo := sorry
set_option maxRecDepth 20000 in
theorem gL_law_X12_undo : GoodIn wsL_law (wsV RL 238 RX12 yX12_undo wsX12_undo) := goodIn_app (goodIn_of _ (by decide +kernel)) ggL_law_X12_undo
set_option maxRecDepth 20000 in
theorem ggL_law_X11_save : GoodIn wsL_law wsX11_save := sorry
set_option maxRecDepth 20000 in
theorem gL_law_X11_save : GoodIn wsL_law (wsV RL 239 RX11 yX11_save wsX11_save) := goodIn_app (goodIn_of _ (by decide +kernel)) ggL_law_X11_save
set_option maxRecDepth 20000 in
theorem ggL_law_X12_save : GoodIn wsL_law wsX12_save := sorry
set_option maxRecDepth 20000 in
theorem gL_law_X12_save : GoodIn wsL_law (wsV RL 242 RX12 yX12_save wsX12_save) := goodIn_app (goodIn_of _ (by decide +kernel)) ggL_law_X12_save
set_option maxRecDepth 20000 in
theorem ggL_law_L_restore : GoodIn wsL_law wsL_restore := sorry
set_option maxRecDepth 20000 in
theorem gL_law_L_restore : GoodIn wsL_law (va_wsS RL 243 yL_restore wsL_restore) := goodIn_app (goodIn_of _ (by decide +kernel)) ggL_law_L_restore
set_option maxRecDepth 20000 in
theorem ggL_law_X12_restore : GoodIn wsL_law wsX12_restore := sorry
set_option maxRecDepth 20000 in
theorem gL_law_X12_restore : GoodIn wsL_law (wsV RL 245 RX12 yX12_restore wsX12_restore) := goodIn_app (goodIn_of _ (by decide +kernel)) ggL_law_X12_restore
