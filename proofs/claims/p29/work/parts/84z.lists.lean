/-! p29: the words that the law's methods ask for. -/
theorem all_a {a b : List Cond} (h1 : a.all goodWord = true) (h2 : b.all goodWord = true) : (a ++ b).all goodWord = true := by rw [List.all_append, h1, h2]; rfl
theorem all_c {x : Cond} {a : List Cond} (h1 : goodWord x = true) (h2 : a.all goodWord = true) : (x :: a).all goodWord = true := by rw [List.all_cons, h1, h2]; rfl
set_option maxRecDepth 20000 in
theorem gw_call : wsL_call.all goodWord = true := by decide +kernel
set_option maxRecDepth 20000 in
theorem gw_doScript : wsL_doScript.all goodWord = true := by decide +kernel
set_option maxRecDepth 20000 in
theorem gw_doSimulate : wsL_doSimulate.all goodWord = true := by decide +kernel
set_option maxRecDepth 20000 in
theorem gw_bits : wsL_bits.all goodWord = true := by decide +kernel
set_option maxRecDepth 20000 in
theorem gw_thrown : wsL_thrown.all goodWord = true := by decide +kernel
set_option maxRecDepth 20000 in
theorem gw_cell : wsL_cell.all goodWord = true := by decide +kernel
set_option maxRecDepth 20000 in
theorem gw_X5_fullest : wsX5_fullest.all goodWord = true := by decide +kernel
set_option maxRecDepth 20000 in
theorem gw_X5_init : wsX5_init.all goodWord = true := by decide +kernel
def eN_isFree : List Cond := [.methodLink RL 164 yL_call, .static yL_call, .initialized RL]
def wsN_isFree : List Cond := .code yL_isFree cL_isFree 6 (some .boolean) :: (eN_isFree ++ wsL_call)
theorem gw_N_isFree : wsN_isFree.all goodWord = true := all_c rfl (all_a (by decide +kernel) gw_call)
theorem gN_isFree_L_call : GoodIn wsN_isFree (va_wsS RL 164 yL_call wsL_call) := goodIn_app (goodIn_of _ (by decide +kernel)) (goodIn_sub (fun w h => List.mem_cons_of_mem _ (List.mem_append_right _ h)) gw_call)
def eN_refuses : List Cond := [.methodLink RL 164 yL_call, .static yL_call, .initialized RL, .methodLink RL 168 yL_doScript, .static yL_doScript, .methodLink RL 174 yL_doSimulate, .static yL_doSimulate, .constant RL 15 (-9999002), .constant RL 40 (-9999001), .constantLong RL 172 (100000), .constant RL 26 (-9999003)]
def wsN_refuses : List Cond := .code yL_refuses cL_refuses 8 (some .boolean) :: (eN_refuses ++ (wsL_call ++ (wsL_doScript ++ wsL_doSimulate)))
theorem gw_N_refuses : wsN_refuses.all goodWord = true := all_c rfl (all_a (by decide +kernel) (all_a gw_call (all_a gw_doScript gw_doSimulate)))
theorem gN_refuses_L_call : GoodIn wsN_refuses (va_wsS RL 164 yL_call wsL_call) := goodIn_app (goodIn_of _ (by decide +kernel)) (goodIn_sub (fun w h => List.mem_cons_of_mem _ (List.mem_append_right _ (List.mem_append_left _ h))) gw_call)
theorem gN_refuses_L_doScript : GoodIn wsN_refuses (va_wsS RL 168 yL_doScript wsL_doScript) := goodIn_app (goodIn_of _ (by decide +kernel)) (goodIn_sub (fun w h => List.mem_cons_of_mem _ (List.mem_append_right _ (List.mem_append_right _ (List.mem_append_left _ h)))) gw_doScript)
theorem gN_refuses_L_doSimulate : GoodIn wsN_refuses (va_wsS RL 174 yL_doSimulate wsL_doSimulate) := goodIn_app (goodIn_of _ (by decide +kernel)) (goodIn_sub (fun w h => List.mem_cons_of_mem _ (List.mem_append_right _ (List.mem_append_right _ (List.mem_append_right _ h)))) gw_doSimulate)
def eN_holds : List Cond := [.methodLink RL 164 yL_call, .static yL_call, .initialized RL, .methodLink RL 181 yL_bits, .static yL_bits, .methodLink RL 184 yL_isFree, .static yL_isFree, .methodLink RL 178 yX5_fullest, .instanceMethod yX5_fullest, .selects RX5 yX5_fullest yX5_fullest, .initialized RX5]
def wsN_holds : List Cond := .code yL_holds cL_holds 19 (some .boolean) :: (eN_holds ++ (wsL_call ++ (wsL_bits ++ (wsN_isFree ++ wsX5_fullest))))
theorem gw_N_holds : wsN_holds.all goodWord = true := all_c rfl (all_a (by decide +kernel) (all_a gw_call (all_a gw_bits (all_a gw_N_isFree gw_X5_fullest))))
theorem gN_holds_L_call : GoodIn wsN_holds (va_wsS RL 164 yL_call wsL_call) := goodIn_app (goodIn_of _ (by decide +kernel)) (goodIn_sub (fun w h => List.mem_cons_of_mem _ (List.mem_append_right _ (List.mem_append_left _ h))) gw_call)
theorem gN_holds_L_bits : GoodIn wsN_holds (va_wsS RL 181 yL_bits wsL_bits) := goodIn_app (goodIn_of _ (by decide +kernel)) (goodIn_sub (fun w h => List.mem_cons_of_mem _ (List.mem_append_right _ (List.mem_append_right _ (List.mem_append_left _ h)))) gw_bits)
theorem gN_holds_L_isFree : GoodIn wsN_holds (va_wsS RL 184 yL_isFree wsN_isFree) := goodIn_app (goodIn_of _ (by decide +kernel)) (goodIn_sub (fun w h => List.mem_cons_of_mem _ (List.mem_append_right _ (List.mem_append_right _ (List.mem_append_right _ (List.mem_append_left _ h))))) gw_N_isFree)
theorem gN_holds_X5_fullest : GoodIn wsN_holds (wsV RL 178 RX5 yX5_fullest wsX5_fullest) := goodIn_app (goodIn_of _ (by decide +kernel)) (goodIn_sub (fun w h => List.mem_cons_of_mem _ (List.mem_append_right _ (List.mem_append_right _ (List.mem_append_right _ (List.mem_append_right _ h))))) gw_X5_fullest)
def eN_act : List Cond := [.methodLink RL 164 yL_call, .static yL_call, .initialized RL]
def wsN_act : List Cond := .code yL_act cL_act 4 (some .int) :: (eN_act ++ wsL_call)
theorem gw_N_act : wsN_act.all goodWord = true := all_c rfl (all_a (by decide +kernel) gw_call)
theorem gN_act_L_call : GoodIn wsN_act (va_wsS RL 164 yL_call wsL_call) := goodIn_app (goodIn_of _ (by decide +kernel)) (goodIn_sub (fun w h => List.mem_cons_of_mem _ (List.mem_append_right _ h)) gw_call)
def eN_alike : List Cond := [.methodLink RL 164 yL_call, .static yL_call, .initialized RL, .methodLink RL 174 yL_doSimulate, .static yL_doSimulate, .methodLink RL 178 yX5_fullest, .instanceMethod yX5_fullest, .selects RX5 yX5_fullest yX5_fullest, .initialized RX5]
def wsN_alike : List Cond := .code yL_alike cL_alike 5 (some .boolean) :: (eN_alike ++ (wsL_call ++ (wsL_doSimulate ++ wsX5_fullest)))
theorem gw_N_alike : wsN_alike.all goodWord = true := all_c rfl (all_a (by decide +kernel) (all_a gw_call (all_a gw_doSimulate gw_X5_fullest)))
theorem gN_alike_L_call : GoodIn wsN_alike (va_wsS RL 164 yL_call wsL_call) := goodIn_app (goodIn_of _ (by decide +kernel)) (goodIn_sub (fun w h => List.mem_cons_of_mem _ (List.mem_append_right _ (List.mem_append_left _ h))) gw_call)
theorem gN_alike_L_doSimulate : GoodIn wsN_alike (va_wsS RL 174 yL_doSimulate wsL_doSimulate) := goodIn_app (goodIn_of _ (by decide +kernel)) (goodIn_sub (fun w h => List.mem_cons_of_mem _ (List.mem_append_right _ (List.mem_append_right _ (List.mem_append_left _ h)))) gw_doSimulate)
theorem gN_alike_X5_fullest : GoodIn wsN_alike (wsV RL 178 RX5 yX5_fullest wsX5_fullest) := goodIn_app (goodIn_of _ (by decide +kernel)) (goodIn_sub (fun w h => List.mem_cons_of_mem _ (List.mem_append_right _ (List.mem_append_right _ (List.mem_append_right _ h)))) gw_X5_fullest)
def eN_waits : List Cond := [.methodLink RL 164 yL_call, .static yL_call, .initialized RL]
def wsN_waits : List Cond := .code yL_waits cL_waits 7 (some .boolean) :: (eN_waits ++ wsL_call)
theorem gw_N_waits : wsN_waits.all goodWord = true := all_c rfl (all_a (by decide +kernel) gw_call)
theorem gN_waits_L_call : GoodIn wsN_waits (va_wsS RL 164 yL_call wsL_call) := goodIn_app (goodIn_of _ (by decide +kernel)) (goodIn_sub (fun w h => List.mem_cons_of_mem _ (List.mem_append_right _ h)) gw_call)
def eN_undoes : List Cond := [.methodLink RL 164 yL_call, .static yL_call, .initialized RL, .methodLink RL 214 yL_thrown, .static yL_thrown]
def wsN_undoes : List Cond := .code yL_undoes cL_undoes 5 (some .boolean) :: (eN_undoes ++ (wsL_call ++ wsL_thrown))
theorem gw_N_undoes : wsN_undoes.all goodWord = true := all_c rfl (all_a (by decide +kernel) (all_a gw_call gw_thrown))
theorem gN_undoes_L_call : GoodIn wsN_undoes (va_wsS RL 164 yL_call wsL_call) := goodIn_app (goodIn_of _ (by decide +kernel)) (goodIn_sub (fun w h => List.mem_cons_of_mem _ (List.mem_append_right _ (List.mem_append_left _ h))) gw_call)
theorem gN_undoes_L_thrown : GoodIn wsN_undoes (va_wsS RL 214 yL_thrown wsL_thrown) := goodIn_app (goodIn_of _ (by decide +kernel)) (goodIn_sub (fun w h => List.mem_cons_of_mem _ (List.mem_append_right _ (List.mem_append_right _ h))) gw_thrown)
def eN_goes : List Cond := [.methodLink RL 164 yL_call, .static yL_call, .initialized RL, .methodLink RL 218 yL_waits, .static yL_waits, .methodLink RL 221 yL_undoes, .static yL_undoes, .methodLink RL 214 yL_thrown, .static yL_thrown]
def wsN_goes : List Cond := .code yL_goes cL_goes 14 (some .boolean) :: (eN_goes ++ (wsL_call ++ (wsN_waits ++ (wsN_undoes ++ wsL_thrown))))
theorem gw_N_goes : wsN_goes.all goodWord = true := all_c rfl (all_a (by decide +kernel) (all_a gw_call (all_a gw_N_waits (all_a gw_N_undoes gw_thrown))))
theorem gN_goes_L_call : GoodIn wsN_goes (va_wsS RL 164 yL_call wsL_call) := goodIn_app (goodIn_of _ (by decide +kernel)) (goodIn_sub (fun w h => List.mem_cons_of_mem _ (List.mem_append_right _ (List.mem_append_left _ h))) gw_call)
theorem gN_goes_L_waits : GoodIn wsN_goes (va_wsS RL 218 yL_waits wsN_waits) := goodIn_app (goodIn_of _ (by decide +kernel)) (goodIn_sub (fun w h => List.mem_cons_of_mem _ (List.mem_append_right _ (List.mem_append_right _ (List.mem_append_left _ h)))) gw_N_waits)
theorem gN_goes_L_undoes : GoodIn wsN_goes (va_wsS RL 221 yL_undoes wsN_undoes) := goodIn_app (goodIn_of _ (by decide +kernel)) (goodIn_sub (fun w h => List.mem_cons_of_mem _ (List.mem_append_right _ (List.mem_append_right _ (List.mem_append_right _ (List.mem_append_left _ h))))) gw_N_undoes)
theorem gN_goes_L_thrown : GoodIn wsN_goes (va_wsS RL 214 yL_thrown wsL_thrown) := goodIn_app (goodIn_of _ (by decide +kernel)) (goodIn_sub (fun w h => List.mem_cons_of_mem _ (List.mem_append_right _ (List.mem_append_right _ (List.mem_append_right _ (List.mem_append_right _ h))))) gw_thrown)
def eN_least : List Cond := [.methodLink RL 164 yL_call, .static yL_call, .initialized RL, .methodLink RL 218 yL_waits, .static yL_waits, .methodLink RL 221 yL_undoes, .static yL_undoes, .methodLink RL 214 yL_thrown, .static yL_thrown]
def wsN_least : List Cond := .code yL_least cL_least 10 (some .boolean) :: (eN_least ++ (wsL_call ++ (wsN_waits ++ (wsN_undoes ++ wsL_thrown))))
theorem gw_N_least : wsN_least.all goodWord = true := all_c rfl (all_a (by decide +kernel) (all_a gw_call (all_a gw_N_waits (all_a gw_N_undoes gw_thrown))))
theorem gN_least_L_call : GoodIn wsN_least (va_wsS RL 164 yL_call wsL_call) := goodIn_app (goodIn_of _ (by decide +kernel)) (goodIn_sub (fun w h => List.mem_cons_of_mem _ (List.mem_append_right _ (List.mem_append_left _ h))) gw_call)
theorem gN_least_L_waits : GoodIn wsN_least (va_wsS RL 218 yL_waits wsN_waits) := goodIn_app (goodIn_of _ (by decide +kernel)) (goodIn_sub (fun w h => List.mem_cons_of_mem _ (List.mem_append_right _ (List.mem_append_right _ (List.mem_append_left _ h)))) gw_N_waits)
theorem gN_least_L_undoes : GoodIn wsN_least (va_wsS RL 221 yL_undoes wsN_undoes) := goodIn_app (goodIn_of _ (by decide +kernel)) (goodIn_sub (fun w h => List.mem_cons_of_mem _ (List.mem_append_right _ (List.mem_append_right _ (List.mem_append_right _ (List.mem_append_left _ h))))) gw_N_undoes)
theorem gN_least_L_thrown : GoodIn wsN_least (va_wsS RL 214 yL_thrown wsL_thrown) := goodIn_app (goodIn_of _ (by decide +kernel)) (goodIn_sub (fun w h => List.mem_cons_of_mem _ (List.mem_append_right _ (List.mem_append_right _ (List.mem_append_right _ (List.mem_append_right _ h))))) gw_thrown)
