def wsX10_weighs_r2 : List Cond := [Cond.constant RX10 67 (-100009), Cond.fieldLink RX10 54 "TicketScalesModel" "least" "I", Cond.fieldLink RX10 60 "TicketScalesModel" "greatest" "I", Cond.methodLink RX10 63 yX10_allows, Cond.instanceMethod yX10_allows, Cond.selects RX10 yX10_allows yX10_allows, Cond.code yX10_allows cX10_allows 6 (some .boolean), Cond.methodLink RX10 50 yX10_lowest, Cond.instanceMethod yX10_lowest, Cond.selects RX10 yX10_lowest yX10_lowest, Cond.code yX10_lowest cX10_lowest 2 (some .int), Cond.constant RX10 49 (-9000000), Cond.methodLink RX10 57 yX10_highest, Cond.instanceMethod yX10_highest, Cond.selects RX10 yX10_highest yX10_highest, Cond.code yX10_highest cX10_highest 2 (some .int)]
def wsX10_weighs : List Cond := .code yX10_weighs cX10_weighs 8 (some .int) :: ((wsX10_weighs_r1 ++ wsX10_weighs_r2) ++ wsX100)
def wsX10_weigh_r1 : List Cond := [Cond.methodLink RX10 72 yX10_keeps, Cond.instanceMethod yX10_keeps, Cond.selects RX10 yX10_keeps yX10_keeps, Cond.initialized RX10, Cond.code yX10_keeps cX10_keeps 2 none, Cond.fieldLink RX10 13 "TicketScalesModel" "aside" "[I", Cond.fieldLink RX10 7 "TicketScalesModel" "d" "[I", Cond.methodLink RX10 105 yX10_weighs, Cond.instanceMethod yX10_weighs, Cond.selects RX10 yX10_weighs yX10_weighs, Cond.code yX10_weighs cX10_weighs 8 (some .int), Cond.constant RX10 40 (-100001), Cond.methodLink RX10 93 yX10_isCustomer, Cond.instanceMethod yX10_isCustomer, Cond.selects RX10 yX10_isCustomer yX10_isCustomer, Cond.code yX10_isCustomer cX10_isCustomer 2 (some .boolean), Cond.methodLink RX10 32 yX10_in, Cond.static yX10_in, Cond.code yX10_in cX10_in 3 (some .boolean), Cond.methodLink RX10 68 yX10_isKind, Cond.static yX10_isKind, Cond.code yX10_isKind cX10_isKind 1 (some .boolean), Cond.methodLink RX10 99 yX10_readsBy, Cond.instanceMethod yX10_readsBy]
def wsX10_weigh_r2 : List Cond := [Cond.selects RX10 yX10_readsBy yX10_readsBy, Cond.code yX10_readsBy cX10_readsBy 4 (some .int), Cond.methodLink RX10 45 yX10_floors, Cond.static yX10_floors, Cond.code yX10_floors cX10_floors 3 (some .int), Cond.methodLink RX10 102 yX10_guesses, Cond.instanceMethod yX10_guesses, Cond.selects RX10 yX10_guesses yX10_guesses, Cond.code yX10_guesses cX10_guesses 6 (some .int), Cond.constant RX10 67 (-100009), Cond.fieldLink RX10 54 "TicketScalesModel" "least" "I", Cond.fieldLink RX10 60 "TicketScalesModel" "greatest" "I", Cond.methodLink RX10 63 yX10_allows, Cond.instanceMethod yX10_allows, Cond.selects RX10 yX10_allows yX10_allows, Cond.code yX10_allows cX10_allows 6 (some .boolean), Cond.methodLink RX10 50 yX10_lowest, Cond.instanceMethod yX10_lowest, Cond.selects RX10 yX10_lowest yX10_lowest, Cond.code yX10_lowest cX10_lowest 2 (some .int), Cond.constant RX10 49 (-9000000), Cond.methodLink RX10 57 yX10_highest, Cond.instanceMethod yX10_highest, Cond.selects RX10 yX10_highest yX10_highest]
def wsX10_weigh_r3 : List Cond := [Cond.code yX10_highest cX10_highest 2 (some .int), Cond.methodLink RX10 79 yX10_acted, Cond.instanceMethod yX10_acted, Cond.selects RX10 yX10_acted yX10_acted, Cond.code yX10_acted cX10_acted 2 (some .int), Cond.methodLink RX10 41 yX10_pushes, Cond.instanceMethod yX10_pushes, Cond.selects RX10 yX10_pushes yX10_pushes, Cond.code yX10_pushes cX10_pushes 3 none, Cond.fieldLink RX10 36 "TicketScalesModel" "states" "I", Cond.fieldLink RX10 19 "TicketScalesModel" "was" "[I"]
def wsX10_weigh : List Cond := .code yX10_weigh cX10_weigh 5 (some .int) :: ((wsX10_weigh_r1 ++ (wsX10_weigh_r2 ++ wsX10_weigh_r3)) ++ wsX100)
def wsX10_far : List Cond := .code yX10_far cX10_far 2 (some .int) :: ([])
def wsX10_claims_r1 : List Cond := [Cond.constant RX10 40 (-100001), Cond.constant RX10 108 (-100002), Cond.fieldLink RX10 7 "TicketScalesModel" "d" "[I", Cond.fieldLink RX10 54 "TicketScalesModel" "least" "I", Cond.fieldLink RX10 60 "TicketScalesModel" "greatest" "I", Cond.methodLink RX10 93 yX10_isCustomer, Cond.instanceMethod yX10_isCustomer, Cond.selects RX10 yX10_isCustomer yX10_isCustomer, Cond.initialized RX10, Cond.code yX10_isCustomer cX10_isCustomer 2 (some .boolean), Cond.methodLink RX10 32 yX10_in, Cond.static yX10_in, Cond.code yX10_in cX10_in 3 (some .boolean), Cond.methodLink RX10 96 yX10_of, Cond.instanceMethod yX10_of, Cond.selects RX10 yX10_of yX10_of, Cond.code yX10_of cX10_of 3 (some .int), Cond.methodLink RX10 63 yX10_allows, Cond.instanceMethod yX10_allows, Cond.selects RX10 yX10_allows yX10_allows, Cond.code yX10_allows cX10_allows 6 (some .boolean), Cond.methodLink RX10 50 yX10_lowest, Cond.instanceMethod yX10_lowest, Cond.selects RX10 yX10_lowest yX10_lowest]
def wsX10_claims_r2 : List Cond := [Cond.code yX10_lowest cX10_lowest 2 (some .int), Cond.constant RX10 49 (-9000000), Cond.methodLink RX10 45 yX10_floors, Cond.static yX10_floors, Cond.code yX10_floors cX10_floors 3 (some .int), Cond.methodLink RX10 57 yX10_highest, Cond.instanceMethod yX10_highest, Cond.selects RX10 yX10_highest yX10_highest, Cond.code yX10_highest cX10_highest 2 (some .int), Cond.methodLink RX10 109 yX10_far, Cond.static yX10_far, Cond.code yX10_far cX10_far 2 (some .int)]
def wsX10_claims : List Cond := .code yX10_claims cX10_claims 6 (some .int) :: ((wsX10_claims_r1 ++ wsX10_claims_r2) ++ wsX100)
def wsX10_claim_r1 : List Cond := [Cond.methodLink RX10 72 yX10_keeps, Cond.instanceMethod yX10_keeps, Cond.selects RX10 yX10_keeps yX10_keeps, Cond.initialized RX10, Cond.code yX10_keeps cX10_keeps 2 none, Cond.fieldLink RX10 13 "TicketScalesModel" "aside" "[I", Cond.fieldLink RX10 7 "TicketScalesModel" "d" "[I", Cond.methodLink RX10 112 yX10_claims, Cond.instanceMethod yX10_claims, Cond.selects RX10 yX10_claims yX10_claims, Cond.code yX10_claims cX10_claims 6 (some .int), Cond.constant RX10 40 (-100001), Cond.constant RX10 108 (-100002), Cond.fieldLink RX10 54 "TicketScalesModel" "least" "I", Cond.fieldLink RX10 60 "TicketScalesModel" "greatest" "I", Cond.methodLink RX10 93 yX10_isCustomer, Cond.instanceMethod yX10_isCustomer, Cond.selects RX10 yX10_isCustomer yX10_isCustomer, Cond.code yX10_isCustomer cX10_isCustomer 2 (some .boolean), Cond.methodLink RX10 32 yX10_in, Cond.static yX10_in, Cond.code yX10_in cX10_in 3 (some .boolean), Cond.methodLink RX10 96 yX10_of, Cond.instanceMethod yX10_of]
def wsX10_claim_r2 : List Cond := [Cond.selects RX10 yX10_of yX10_of, Cond.code yX10_of cX10_of 3 (some .int), Cond.methodLink RX10 63 yX10_allows, Cond.instanceMethod yX10_allows, Cond.selects RX10 yX10_allows yX10_allows, Cond.code yX10_allows cX10_allows 6 (some .boolean), Cond.methodLink RX10 50 yX10_lowest, Cond.instanceMethod yX10_lowest, Cond.selects RX10 yX10_lowest yX10_lowest, Cond.code yX10_lowest cX10_lowest 2 (some .int), Cond.constant RX10 49 (-9000000), Cond.methodLink RX10 45 yX10_floors, Cond.static yX10_floors, Cond.code yX10_floors cX10_floors 3 (some .int), Cond.methodLink RX10 57 yX10_highest, Cond.instanceMethod yX10_highest, Cond.selects RX10 yX10_highest yX10_highest, Cond.code yX10_highest cX10_highest 2 (some .int), Cond.methodLink RX10 109 yX10_far, Cond.static yX10_far, Cond.code yX10_far cX10_far 2 (some .int), Cond.methodLink RX10 79 yX10_acted, Cond.instanceMethod yX10_acted, Cond.selects RX10 yX10_acted yX10_acted]
def wsX10_claim_r3 : List Cond := [Cond.code yX10_acted cX10_acted 2 (some .int), Cond.methodLink RX10 41 yX10_pushes, Cond.instanceMethod yX10_pushes, Cond.selects RX10 yX10_pushes yX10_pushes, Cond.code yX10_pushes cX10_pushes 3 none, Cond.fieldLink RX10 36 "TicketScalesModel" "states" "I", Cond.fieldLink RX10 19 "TicketScalesModel" "was" "[I"]
def wsX10_claim : List Cond := .code yX10_claim cX10_claim 3 (some .int) :: ((wsX10_claim_r1 ++ (wsX10_claim_r2 ++ wsX10_claim_r3)) ++ wsX100)
def wsX10_adds : List Cond := .code yX10_adds cX10_adds 7 (some .int) :: ([.constant RX10 115 (100000), .constant RX10 40 (-100001), .fieldLink RX10 7 "TicketScalesModel" "d" "[I", .constant RX10 89 (-100003), .methodLink RX10 32 yX10_in, .static yX10_in, .initialized RX10, .code yX10_in cX10_in 3 (some .boolean)] ++ wsX100)
def wsX10_addPrize_r1 : List Cond := [Cond.methodLink RX10 72 yX10_keeps, Cond.instanceMethod yX10_keeps, Cond.selects RX10 yX10_keeps yX10_keeps, Cond.initialized RX10, Cond.code yX10_keeps cX10_keeps 2 none, Cond.fieldLink RX10 13 "TicketScalesModel" "aside" "[I", Cond.fieldLink RX10 7 "TicketScalesModel" "d" "[I", Cond.methodLink RX10 116 yX10_adds, Cond.instanceMethod yX10_adds, Cond.selects RX10 yX10_adds yX10_adds, Cond.code yX10_adds cX10_adds 7 (some .int), Cond.constant RX10 115 (100000), Cond.constant RX10 40 (-100001), Cond.constant RX10 89 (-100003), Cond.methodLink RX10 32 yX10_in, Cond.static yX10_in, Cond.code yX10_in cX10_in 3 (some .boolean), Cond.methodLink RX10 79 yX10_acted, Cond.instanceMethod yX10_acted, Cond.selects RX10 yX10_acted yX10_acted, Cond.code yX10_acted cX10_acted 2 (some .int), Cond.methodLink RX10 41 yX10_pushes, Cond.instanceMethod yX10_pushes, Cond.selects RX10 yX10_pushes yX10_pushes]
def wsX10_addPrize_r2 : List Cond := [Cond.code yX10_pushes cX10_pushes 3 none, Cond.fieldLink RX10 36 "TicketScalesModel" "states" "I", Cond.fieldLink RX10 19 "TicketScalesModel" "was" "[I"]
def wsX10_addPrize : List Cond := .code yX10_addPrize cX10_addPrize 6 (some .int) :: ((wsX10_addPrize_r1 ++ wsX10_addPrize_r2) ++ wsX100)
def wsX10_removePrize_r1 : List Cond := [Cond.constant RX10 40 (-100001), Cond.fieldLink RX10 7 "TicketScalesModel" "d" "[I", Cond.methodLink RX10 120 yX10_isPrize, Cond.instanceMethod yX10_isPrize, Cond.selects RX10 yX10_isPrize yX10_isPrize, Cond.initialized RX10, Cond.code yX10_isPrize cX10_isPrize 2 (some .boolean), Cond.methodLink RX10 32 yX10_in, Cond.static yX10_in, Cond.code yX10_in cX10_in 3 (some .boolean), Cond.methodLink RX10 72 yX10_keeps, Cond.instanceMethod yX10_keeps, Cond.selects RX10 yX10_keeps yX10_keeps, Cond.code yX10_keeps cX10_keeps 2 none, Cond.fieldLink RX10 13 "TicketScalesModel" "aside" "[I", Cond.methodLink RX10 123 yX10_priced, Cond.instanceMethod yX10_priced, Cond.selects RX10 yX10_priced yX10_priced, Cond.code yX10_priced cX10_priced 3 (some .int), Cond.methodLink RX10 79 yX10_acted, Cond.instanceMethod yX10_acted, Cond.selects RX10 yX10_acted yX10_acted, Cond.code yX10_acted cX10_acted 2 (some .int), Cond.methodLink RX10 41 yX10_pushes]
def wsX10_removePrize_r2 : List Cond := [Cond.instanceMethod yX10_pushes, Cond.selects RX10 yX10_pushes yX10_pushes, Cond.code yX10_pushes cX10_pushes 3 none, Cond.fieldLink RX10 36 "TicketScalesModel" "states" "I", Cond.fieldLink RX10 19 "TicketScalesModel" "was" "[I"]
def wsX10_removePrize : List Cond := .code yX10_removePrize cX10_removePrize 4 (some .int) :: ((wsX10_removePrize_r1 ++ wsX10_removePrize_r2) ++ wsX100)
def wsX10_setPrice_r1 : List Cond := [Cond.constant RX10 40 (-100001), Cond.methodLink RX10 120 yX10_isPrize, Cond.instanceMethod yX10_isPrize, Cond.selects RX10 yX10_isPrize yX10_isPrize, Cond.initialized RX10, Cond.code yX10_isPrize cX10_isPrize 2 (some .boolean), Cond.fieldLink RX10 7 "TicketScalesModel" "d" "[I", Cond.methodLink RX10 32 yX10_in, Cond.static yX10_in, Cond.code yX10_in cX10_in 3 (some .boolean), Cond.methodLink RX10 72 yX10_keeps, Cond.instanceMethod yX10_keeps, Cond.selects RX10 yX10_keeps yX10_keeps, Cond.code yX10_keeps cX10_keeps 2 none, Cond.fieldLink RX10 13 "TicketScalesModel" "aside" "[I", Cond.methodLink RX10 85 yX10_sets, Cond.instanceMethod yX10_sets, Cond.selects RX10 yX10_sets yX10_sets, Cond.code yX10_sets cX10_sets 6 (some .int), Cond.methodLink RX10 79 yX10_acted, Cond.instanceMethod yX10_acted, Cond.selects RX10 yX10_acted yX10_acted, Cond.code yX10_acted cX10_acted 2 (some .int), Cond.methodLink RX10 41 yX10_pushes]
def wsX10_setPrice_r2 : List Cond := [Cond.instanceMethod yX10_pushes, Cond.selects RX10 yX10_pushes yX10_pushes, Cond.code yX10_pushes cX10_pushes 3 none, Cond.fieldLink RX10 36 "TicketScalesModel" "states" "I", Cond.fieldLink RX10 19 "TicketScalesModel" "was" "[I"]
def wsX10_setPrice : List Cond := .code yX10_setPrice cX10_setPrice 3 (some .int) :: ((wsX10_setPrice_r1 ++ wsX10_setPrice_r2) ++ wsX100)
def wsX10_stocked : List Cond := .code yX10_stocked cX10_stocked 5 (some .int) :: ([.constantLong RX10 126 (99)])
def wsX10_buys_r1 : List Cond := [Cond.constant RX10 40 (-100001), Cond.constant RX10 108 (-100002), Cond.constant RX10 89 (-100003), Cond.fieldLink RX10 7 "TicketScalesModel" "d" "[I", Cond.methodLink RX10 93 yX10_isCustomer, Cond.instanceMethod yX10_isCustomer, Cond.selects RX10 yX10_isCustomer yX10_isCustomer, Cond.initialized RX10, Cond.code yX10_isCustomer cX10_isCustomer 2 (some .boolean), Cond.methodLink RX10 32 yX10_in, Cond.static yX10_in, Cond.code yX10_in cX10_in 3 (some .boolean), Cond.methodLink RX10 120 yX10_isPrize, Cond.instanceMethod yX10_isPrize, Cond.selects RX10 yX10_isPrize yX10_isPrize, Cond.code yX10_isPrize cX10_isPrize 2 (some .boolean), Cond.methodLink RX10 96 yX10_of, Cond.instanceMethod yX10_of, Cond.selects RX10 yX10_of yX10_of, Cond.code yX10_of cX10_of 3 (some .int), Cond.methodLink RX10 123 yX10_priced, Cond.instanceMethod yX10_priced, Cond.selects RX10 yX10_priced yX10_priced, Cond.code yX10_priced cX10_priced 3 (some .int)]
def wsX10_buys_r2 : List Cond := [Cond.methodLink RX10 128 yX10_stocked, Cond.static yX10_stocked, Cond.code yX10_stocked cX10_stocked 5 (some .int), Cond.constantLong RX10 126 (99)]
def wsX10_buys : List Cond := .code yX10_buys cX10_buys 7 (some .int) :: ((wsX10_buys_r1 ++ wsX10_buys_r2) ++ wsX100)
def wsX10_buy_r1 : List Cond := [Cond.methodLink RX10 72 yX10_keeps, Cond.instanceMethod yX10_keeps, Cond.selects RX10 yX10_keeps yX10_keeps, Cond.initialized RX10, Cond.code yX10_keeps cX10_keeps 2 none, Cond.fieldLink RX10 13 "TicketScalesModel" "aside" "[I", Cond.fieldLink RX10 7 "TicketScalesModel" "d" "[I", Cond.methodLink RX10 131 yX10_buys, Cond.instanceMethod yX10_buys, Cond.selects RX10 yX10_buys yX10_buys, Cond.code yX10_buys cX10_buys 7 (some .int), Cond.constant RX10 40 (-100001), Cond.constant RX10 108 (-100002), Cond.constant RX10 89 (-100003), Cond.methodLink RX10 93 yX10_isCustomer, Cond.instanceMethod yX10_isCustomer, Cond.selects RX10 yX10_isCustomer yX10_isCustomer, Cond.code yX10_isCustomer cX10_isCustomer 2 (some .boolean), Cond.methodLink RX10 32 yX10_in, Cond.static yX10_in, Cond.code yX10_in cX10_in 3 (some .boolean), Cond.methodLink RX10 120 yX10_isPrize, Cond.instanceMethod yX10_isPrize, Cond.selects RX10 yX10_isPrize yX10_isPrize]
def wsX10_buy_r2 : List Cond := [Cond.code yX10_isPrize cX10_isPrize 2 (some .boolean), Cond.methodLink RX10 96 yX10_of, Cond.instanceMethod yX10_of, Cond.selects RX10 yX10_of yX10_of, Cond.code yX10_of cX10_of 3 (some .int), Cond.methodLink RX10 123 yX10_priced, Cond.instanceMethod yX10_priced, Cond.selects RX10 yX10_priced yX10_priced, Cond.code yX10_priced cX10_priced 3 (some .int), Cond.methodLink RX10 128 yX10_stocked, Cond.static yX10_stocked, Cond.code yX10_stocked cX10_stocked 5 (some .int), Cond.constantLong RX10 126 (99), Cond.methodLink RX10 79 yX10_acted, Cond.instanceMethod yX10_acted, Cond.selects RX10 yX10_acted yX10_acted, Cond.code yX10_acted cX10_acted 2 (some .int), Cond.methodLink RX10 41 yX10_pushes, Cond.instanceMethod yX10_pushes, Cond.selects RX10 yX10_pushes yX10_pushes, Cond.code yX10_pushes cX10_pushes 3 none, Cond.fieldLink RX10 36 "TicketScalesModel" "states" "I", Cond.fieldLink RX10 19 "TicketScalesModel" "was" "[I"]
def wsX10_buy : List Cond := .code yX10_buy cX10_buy 4 (some .int) :: ((wsX10_buy_r1 ++ wsX10_buy_r2) ++ wsX100)
def wsX10_pointsOfAll : List Cond := .code yX10_pointsOfAll cX10_pointsOfAll 3 (some .int) :: ([.fieldLink RX10 7 "TicketScalesModel" "d" "[I", .methodLink RX10 96 yX10_of, .instanceMethod yX10_of, .selects RX10 yX10_of yX10_of, .initialized RX10, .code yX10_of cX10_of 3 (some .int)] ++ wsX100)
def wsX10_take_r1 : List Cond := [Cond.constant RX10 40 (-100001), Cond.fieldLink RX10 7 "TicketScalesModel" "d" "[I", Cond.methodLink RX10 32 yX10_in, Cond.static yX10_in, Cond.initialized RX10, Cond.code yX10_in cX10_in 3 (some .boolean), Cond.methodLink RX10 72 yX10_keeps, Cond.instanceMethod yX10_keeps, Cond.selects RX10 yX10_keeps yX10_keeps, Cond.code yX10_keeps cX10_keeps 2 none, Cond.fieldLink RX10 13 "TicketScalesModel" "aside" "[I", Cond.methodLink RX10 134 yX10_pointsOfAll, Cond.instanceMethod yX10_pointsOfAll, Cond.selects RX10 yX10_pointsOfAll yX10_pointsOfAll, Cond.code yX10_pointsOfAll cX10_pointsOfAll 3 (some .int), Cond.methodLink RX10 96 yX10_of, Cond.instanceMethod yX10_of, Cond.selects RX10 yX10_of yX10_of, Cond.code yX10_of cX10_of 3 (some .int), Cond.methodLink RX10 79 yX10_acted, Cond.instanceMethod yX10_acted, Cond.selects RX10 yX10_acted yX10_acted, Cond.code yX10_acted cX10_acted 2 (some .int), Cond.methodLink RX10 41 yX10_pushes]
def wsX10_take_r2 : List Cond := [Cond.instanceMethod yX10_pushes, Cond.selects RX10 yX10_pushes yX10_pushes, Cond.code yX10_pushes cX10_pushes 3 none, Cond.fieldLink RX10 36 "TicketScalesModel" "states" "I", Cond.fieldLink RX10 19 "TicketScalesModel" "was" "[I"]
def wsX10_take : List Cond := .code yX10_take cX10_take 4 (some .int) :: ((wsX10_take_r1 ++ wsX10_take_r2) ++ wsX100)
def wsX10_restore_r1 : List Cond := [Cond.constant RX10 40 (-100001), Cond.fieldLink RX10 7 "TicketScalesModel" "d" "[I", Cond.constant RX10 108 (-100002), Cond.methodLink RX10 32 yX10_in, Cond.static yX10_in, Cond.initialized RX10, Cond.code yX10_in cX10_in 3 (some .boolean), Cond.methodLink RX10 72 yX10_keeps, Cond.instanceMethod yX10_keeps, Cond.selects RX10 yX10_keeps yX10_keeps, Cond.code yX10_keeps cX10_keeps 2 none, Cond.fieldLink RX10 13 "TicketScalesModel" "aside" "[I", Cond.methodLink RX10 134 yX10_pointsOfAll, Cond.instanceMethod yX10_pointsOfAll, Cond.selects RX10 yX10_pointsOfAll yX10_pointsOfAll, Cond.code yX10_pointsOfAll cX10_pointsOfAll 3 (some .int), Cond.methodLink RX10 96 yX10_of, Cond.instanceMethod yX10_of, Cond.selects RX10 yX10_of yX10_of, Cond.code yX10_of cX10_of 3 (some .int), Cond.methodLink RX10 79 yX10_acted, Cond.instanceMethod yX10_acted, Cond.selects RX10 yX10_acted yX10_acted, Cond.code yX10_acted cX10_acted 2 (some .int)]
def wsX10_restore_r2 : List Cond := [Cond.methodLink RX10 41 yX10_pushes, Cond.instanceMethod yX10_pushes, Cond.selects RX10 yX10_pushes yX10_pushes, Cond.code yX10_pushes cX10_pushes 3 none, Cond.fieldLink RX10 36 "TicketScalesModel" "states" "I", Cond.fieldLink RX10 19 "TicketScalesModel" "was" "[I"]
def wsX10_restore : List Cond := .code yX10_restore cX10_restore 4 (some .int) :: ((wsX10_restore_r1 ++ wsX10_restore_r2) ++ wsX100)
def wsX10_undo : List Cond := .code yX10_undo cX10_undo 2 (some .int) :: ([.fieldLink RX10 36 "TicketScalesModel" "states" "I", .constant RX10 108 (-100002), .fieldLink RX10 7 "TicketScalesModel" "d" "[I", .fieldLink RX10 19 "TicketScalesModel" "was" "[I"] ++ wsX100)
def wsX10_append : List Cond := .code yX10_append cX10_append 2 (some .int) :: ([.constant RX10 40 (-100001), .fieldLink RX10 138 "TicketScalesModel" "length" "I", .constant RX10 89 (-100003), .fieldLink RX10 22 "TicketScalesModel" "text" "[C", .methodLink RX10 32 yX10_in, .static yX10_in, .initialized RX10, .code yX10_in cX10_in 3 (some .boolean)] ++ wsX100)
def wsX10_clearText : List Cond := .code yX10_clearText cX10_clearText 2 (some .int) :: ([.fieldLink RX10 138 "TicketScalesModel" "length" "I"] ++ wsX100)
def wsX10_isIn : List Cond := .code yX10_isIn cX10_isIn 3 (some .boolean) :: ([.fieldLink RX10 141 "TicketScalesModel" "at" "I", .fieldLink RX10 138 "TicketScalesModel" "length" "I", .fieldLink RX10 22 "TicketScalesModel" "text" "[C", .methodLink RX10 32 yX10_in, .static yX10_in, .initialized RX10, .code yX10_in cX10_in 3 (some .boolean)] ++ wsX100)
def wsX10_reads : List Cond := .code yX10_reads cX10_reads 1 none :: ([.fieldLink RX10 141 "TicketScalesModel" "at" "I", .fieldLink RX10 138 "TicketScalesModel" "length" "I", .fieldLink RX10 22 "TicketScalesModel" "text" "[C", .fieldLink RX10 144 "TicketScalesModel" "from" "I", .fieldLink RX10 150 "TicketScalesModel" "sort" "I", .methodLink RX10 147 yX10_isIn, .instanceMethod yX10_isIn, .selects RX10 yX10_isIn yX10_isIn, .initialized RX10, .code yX10_isIn cX10_isIn 3 (some .boolean), .methodLink RX10 32 yX10_in, .static yX10_in, .code yX10_in cX10_in 3 (some .boolean)] ++ wsX100)
def wsX10_numbers : List Cond := .code yX10_numbers cX10_numbers 1 (some .int) :: ([])
def wsX10_word : List Cond := .code yX10_word cX10_word 3 (some .int) :: ([.fieldLink RX10 144 "TicketScalesModel" "from" "I", .fieldLink RX10 141 "TicketScalesModel" "at" "I", .fieldLink RX10 22 "TicketScalesModel" "text" "[C"] ++ wsX100)
def wsX10_isNumber : List Cond := .code yX10_isNumber cX10_isNumber 1 (some .boolean) :: ([.fieldLink RX10 150 "TicketScalesModel" "sort" "I", .fieldLink RX10 141 "TicketScalesModel" "at" "I", .fieldLink RX10 144 "TicketScalesModel" "from" "I", .fieldLink RX10 22 "TicketScalesModel" "text" "[C"] ++ wsX100)
def wsX10_value : List Cond := .code yX10_value cX10_value 3 (some .int) :: ([.fieldLink RX10 144 "TicketScalesModel" "from" "I", .fieldLink RX10 141 "TicketScalesModel" "at" "I", .fieldLink RX10 22 "TicketScalesModel" "text" "[C"] ++ wsX100)
def wsX10_does_r1 : List Cond := [Cond.fieldLink RX10 29 "TicketScalesModel" "got" "[I", Cond.methodLink RX10 75 yX10_kinds, Cond.instanceMethod yX10_kinds, Cond.selects RX10 yX10_kinds yX10_kinds, Cond.initialized RX10, Cond.code yX10_kinds cX10_kinds 5 (some .int), Cond.constant RX10 40 (-100001), Cond.fieldLink RX10 7 "TicketScalesModel" "d" "[I", Cond.methodLink RX10 68 yX10_isKind, Cond.static yX10_isKind, Cond.code yX10_isKind cX10_isKind 1 (some .boolean), Cond.methodLink RX10 32 yX10_in, Cond.static yX10_in, Cond.code yX10_in cX10_in 3 (some .boolean), Cond.methodLink RX10 82 yX10_scales, Cond.instanceMethod yX10_scales, Cond.selects RX10 yX10_scales yX10_scales, Cond.code yX10_scales cX10_scales 3 (some .int), Cond.methodLink RX10 85 yX10_sets, Cond.instanceMethod yX10_sets, Cond.selects RX10 yX10_sets yX10_sets, Cond.code yX10_sets cX10_sets 6 (some .int), Cond.methodLink RX10 90 yX10_comes, Cond.instanceMethod yX10_comes]
def wsX10_does_r2 : List Cond := [Cond.selects RX10 yX10_comes yX10_comes, Cond.code yX10_comes cX10_comes 3 (some .int), Cond.constant RX10 89 (-100003), Cond.methodLink RX10 116 yX10_adds, Cond.instanceMethod yX10_adds, Cond.selects RX10 yX10_adds yX10_adds, Cond.code yX10_adds cX10_adds 7 (some .int), Cond.constant RX10 115 (100000), Cond.methodLink RX10 105 yX10_weighs, Cond.instanceMethod yX10_weighs, Cond.selects RX10 yX10_weighs yX10_weighs, Cond.code yX10_weighs cX10_weighs 8 (some .int), Cond.methodLink RX10 93 yX10_isCustomer, Cond.instanceMethod yX10_isCustomer, Cond.selects RX10 yX10_isCustomer yX10_isCustomer, Cond.code yX10_isCustomer cX10_isCustomer 2 (some .boolean), Cond.methodLink RX10 99 yX10_readsBy, Cond.instanceMethod yX10_readsBy, Cond.selects RX10 yX10_readsBy yX10_readsBy, Cond.code yX10_readsBy cX10_readsBy 4 (some .int), Cond.methodLink RX10 45 yX10_floors, Cond.static yX10_floors, Cond.code yX10_floors cX10_floors 3 (some .int), Cond.methodLink RX10 102 yX10_guesses]
def wsX10_does_r3 : List Cond := [Cond.instanceMethod yX10_guesses, Cond.selects RX10 yX10_guesses yX10_guesses, Cond.code yX10_guesses cX10_guesses 6 (some .int), Cond.constant RX10 67 (-100009), Cond.fieldLink RX10 54 "TicketScalesModel" "least" "I", Cond.fieldLink RX10 60 "TicketScalesModel" "greatest" "I", Cond.methodLink RX10 63 yX10_allows, Cond.instanceMethod yX10_allows, Cond.selects RX10 yX10_allows yX10_allows, Cond.code yX10_allows cX10_allows 6 (some .boolean), Cond.methodLink RX10 50 yX10_lowest, Cond.instanceMethod yX10_lowest, Cond.selects RX10 yX10_lowest yX10_lowest, Cond.code yX10_lowest cX10_lowest 2 (some .int), Cond.constant RX10 49 (-9000000), Cond.methodLink RX10 57 yX10_highest, Cond.instanceMethod yX10_highest, Cond.selects RX10 yX10_highest yX10_highest, Cond.code yX10_highest cX10_highest 2 (some .int), Cond.methodLink RX10 112 yX10_claims, Cond.instanceMethod yX10_claims, Cond.selects RX10 yX10_claims yX10_claims, Cond.code yX10_claims cX10_claims 6 (some .int), Cond.constant RX10 108 (-100002)]
def wsX10_does_r4 : List Cond := [Cond.methodLink RX10 96 yX10_of, Cond.instanceMethod yX10_of, Cond.selects RX10 yX10_of yX10_of, Cond.code yX10_of cX10_of 3 (some .int), Cond.methodLink RX10 109 yX10_far, Cond.static yX10_far, Cond.code yX10_far cX10_far 2 (some .int), Cond.methodLink RX10 131 yX10_buys, Cond.instanceMethod yX10_buys, Cond.selects RX10 yX10_buys yX10_buys, Cond.code yX10_buys cX10_buys 7 (some .int), Cond.methodLink RX10 120 yX10_isPrize, Cond.instanceMethod yX10_isPrize, Cond.selects RX10 yX10_isPrize yX10_isPrize, Cond.code yX10_isPrize cX10_isPrize 2 (some .boolean), Cond.methodLink RX10 123 yX10_priced, Cond.instanceMethod yX10_priced, Cond.selects RX10 yX10_priced yX10_priced, Cond.code yX10_priced cX10_priced 3 (some .int), Cond.methodLink RX10 128 yX10_stocked, Cond.static yX10_stocked, Cond.code yX10_stocked cX10_stocked 5 (some .int), Cond.constantLong RX10 126 (99)]
def wsX10_does : List Cond := .code yX10_does cX10_does 2 (some .int) :: ((wsX10_does_r1 ++ (wsX10_does_r2 ++ (wsX10_does_r3 ++ wsX10_does_r4))) ++ wsX100)
def wsX10_fails : List Cond := .code yX10_fails cX10_fails 6 (some .int) :: ([.fieldLink RX10 7 "TicketScalesModel" "d" "[I", .fieldLink RX10 16 "TicketScalesModel" "begun" "[I", .fieldLink RX10 153 "TicketScalesModel" "hasFailed" "Z", .fieldLink RX10 26 "TicketScalesModel" "failed" "[I"] ++ wsX100)
def wsX10_readsNumbers_r1 : List Cond := [Cond.fieldLink RX10 29 "TicketScalesModel" "got" "[I", Cond.fieldLink RX10 150 "TicketScalesModel" "sort" "I", Cond.fieldLink RX10 22 "TicketScalesModel" "text" "[C", Cond.fieldLink RX10 144 "TicketScalesModel" "from" "I", Cond.methodLink RX10 157 yX10_reads, Cond.instanceMethod yX10_reads, Cond.selects RX10 yX10_reads yX10_reads, Cond.initialized RX10, Cond.code yX10_reads cX10_reads 1 none, Cond.fieldLink RX10 141 "TicketScalesModel" "at" "I", Cond.fieldLink RX10 138 "TicketScalesModel" "length" "I", Cond.methodLink RX10 147 yX10_isIn, Cond.instanceMethod yX10_isIn, Cond.selects RX10 yX10_isIn yX10_isIn, Cond.code yX10_isIn cX10_isIn 3 (some .boolean), Cond.methodLink RX10 32 yX10_in, Cond.static yX10_in, Cond.code yX10_in cX10_in 3 (some .boolean), Cond.methodLink RX10 160 yX10_isNumber, Cond.instanceMethod yX10_isNumber, Cond.selects RX10 yX10_isNumber yX10_isNumber, Cond.code yX10_isNumber cX10_isNumber 1 (some .boolean), Cond.methodLink RX10 164 yX10_value, Cond.instanceMethod yX10_value]
def wsX10_readsNumbers_r2 : List Cond := [Cond.selects RX10 yX10_value yX10_value, Cond.code yX10_value cX10_value 3 (some .int)]
def wsX10_readsNumbers : List Cond := .code yX10_readsNumbers cX10_readsNumbers 3 (some .boolean) :: ((wsX10_readsNumbers_r1 ++ wsX10_readsNumbers_r2) ++ wsX100)
def wsX10_run_r1 : List Cond := [Cond.fieldLink RX10 16 "TicketScalesModel" "begun" "[I", Cond.fieldLink RX10 7 "TicketScalesModel" "d" "[I", Cond.fieldLink RX10 141 "TicketScalesModel" "at" "I", Cond.fieldLink RX10 150 "TicketScalesModel" "sort" "I", Cond.fieldLink RX10 144 "TicketScalesModel" "from" "I", Cond.constant RX10 67 (-100009), Cond.constant RX10 40 (-100001), Cond.fieldLink RX10 138 "TicketScalesModel" "length" "I", Cond.methodLink RX10 157 yX10_reads, Cond.instanceMethod yX10_reads, Cond.selects RX10 yX10_reads yX10_reads, Cond.initialized RX10, Cond.code yX10_reads cX10_reads 1 none, Cond.fieldLink RX10 22 "TicketScalesModel" "text" "[C", Cond.methodLink RX10 147 yX10_isIn, Cond.instanceMethod yX10_isIn, Cond.selects RX10 yX10_isIn yX10_isIn, Cond.code yX10_isIn cX10_isIn 3 (some .boolean), Cond.methodLink RX10 32 yX10_in, Cond.static yX10_in, Cond.code yX10_in cX10_in 3 (some .boolean), Cond.methodLink RX10 167 yX10_word, Cond.instanceMethod yX10_word, Cond.selects RX10 yX10_word yX10_word]
def wsX10_run_r2 : List Cond := [Cond.code yX10_word cX10_word 3 (some .int), Cond.methodLink RX10 170 yX10_numbers, Cond.static yX10_numbers, Cond.code yX10_numbers cX10_numbers 1 (some .int), Cond.methodLink RX10 173 yX10_readsNumbers, Cond.instanceMethod yX10_readsNumbers, Cond.selects RX10 yX10_readsNumbers yX10_readsNumbers, Cond.code yX10_readsNumbers cX10_readsNumbers 3 (some .boolean), Cond.fieldLink RX10 29 "TicketScalesModel" "got" "[I", Cond.methodLink RX10 160 yX10_isNumber, Cond.instanceMethod yX10_isNumber, Cond.selects RX10 yX10_isNumber yX10_isNumber, Cond.code yX10_isNumber cX10_isNumber 1 (some .boolean), Cond.methodLink RX10 164 yX10_value, Cond.instanceMethod yX10_value, Cond.selects RX10 yX10_value yX10_value, Cond.code yX10_value cX10_value 3 (some .int), Cond.methodLink RX10 176 yX10_fails, Cond.instanceMethod yX10_fails, Cond.selects RX10 yX10_fails yX10_fails, Cond.code yX10_fails cX10_fails 6 (some .int), Cond.fieldLink RX10 153 "TicketScalesModel" "hasFailed" "Z", Cond.fieldLink RX10 26 "TicketScalesModel" "failed" "[I", Cond.methodLink RX10 179 yX10_does]
def wsX10_run_r3 : List Cond := [Cond.instanceMethod yX10_does, Cond.selects RX10 yX10_does yX10_does, Cond.code yX10_does cX10_does 2 (some .int), Cond.methodLink RX10 75 yX10_kinds, Cond.instanceMethod yX10_kinds, Cond.selects RX10 yX10_kinds yX10_kinds, Cond.code yX10_kinds cX10_kinds 5 (some .int), Cond.methodLink RX10 68 yX10_isKind, Cond.static yX10_isKind, Cond.code yX10_isKind cX10_isKind 1 (some .boolean), Cond.methodLink RX10 82 yX10_scales, Cond.instanceMethod yX10_scales, Cond.selects RX10 yX10_scales yX10_scales, Cond.code yX10_scales cX10_scales 3 (some .int), Cond.methodLink RX10 85 yX10_sets, Cond.instanceMethod yX10_sets, Cond.selects RX10 yX10_sets yX10_sets, Cond.code yX10_sets cX10_sets 6 (some .int), Cond.methodLink RX10 90 yX10_comes, Cond.instanceMethod yX10_comes, Cond.selects RX10 yX10_comes yX10_comes, Cond.code yX10_comes cX10_comes 3 (some .int), Cond.constant RX10 89 (-100003), Cond.methodLink RX10 116 yX10_adds]
def wsX10_run_r4 : List Cond := [Cond.instanceMethod yX10_adds, Cond.selects RX10 yX10_adds yX10_adds, Cond.code yX10_adds cX10_adds 7 (some .int), Cond.constant RX10 115 (100000), Cond.methodLink RX10 105 yX10_weighs, Cond.instanceMethod yX10_weighs, Cond.selects RX10 yX10_weighs yX10_weighs, Cond.code yX10_weighs cX10_weighs 8 (some .int), Cond.methodLink RX10 93 yX10_isCustomer, Cond.instanceMethod yX10_isCustomer, Cond.selects RX10 yX10_isCustomer yX10_isCustomer, Cond.code yX10_isCustomer cX10_isCustomer 2 (some .boolean), Cond.methodLink RX10 99 yX10_readsBy, Cond.instanceMethod yX10_readsBy, Cond.selects RX10 yX10_readsBy yX10_readsBy, Cond.code yX10_readsBy cX10_readsBy 4 (some .int), Cond.methodLink RX10 45 yX10_floors, Cond.static yX10_floors, Cond.code yX10_floors cX10_floors 3 (some .int), Cond.methodLink RX10 102 yX10_guesses, Cond.instanceMethod yX10_guesses, Cond.selects RX10 yX10_guesses yX10_guesses, Cond.code yX10_guesses cX10_guesses 6 (some .int), Cond.fieldLink RX10 54 "TicketScalesModel" "least" "I"]
def wsX10_run_r5 : List Cond := [Cond.fieldLink RX10 60 "TicketScalesModel" "greatest" "I", Cond.methodLink RX10 63 yX10_allows, Cond.instanceMethod yX10_allows, Cond.selects RX10 yX10_allows yX10_allows, Cond.code yX10_allows cX10_allows 6 (some .boolean), Cond.methodLink RX10 50 yX10_lowest, Cond.instanceMethod yX10_lowest, Cond.selects RX10 yX10_lowest yX10_lowest, Cond.code yX10_lowest cX10_lowest 2 (some .int), Cond.constant RX10 49 (-9000000), Cond.methodLink RX10 57 yX10_highest, Cond.instanceMethod yX10_highest, Cond.selects RX10 yX10_highest yX10_highest, Cond.code yX10_highest cX10_highest 2 (some .int), Cond.methodLink RX10 112 yX10_claims, Cond.instanceMethod yX10_claims, Cond.selects RX10 yX10_claims yX10_claims, Cond.code yX10_claims cX10_claims 6 (some .int), Cond.constant RX10 108 (-100002), Cond.methodLink RX10 96 yX10_of, Cond.instanceMethod yX10_of, Cond.selects RX10 yX10_of yX10_of, Cond.code yX10_of cX10_of 3 (some .int), Cond.methodLink RX10 109 yX10_far]
def wsX10_run_r6 : List Cond := [Cond.static yX10_far, Cond.code yX10_far cX10_far 2 (some .int), Cond.methodLink RX10 131 yX10_buys, Cond.instanceMethod yX10_buys, Cond.selects RX10 yX10_buys yX10_buys, Cond.code yX10_buys cX10_buys 7 (some .int), Cond.methodLink RX10 120 yX10_isPrize, Cond.instanceMethod yX10_isPrize, Cond.selects RX10 yX10_isPrize yX10_isPrize, Cond.code yX10_isPrize cX10_isPrize 2 (some .boolean), Cond.methodLink RX10 123 yX10_priced, Cond.instanceMethod yX10_priced, Cond.selects RX10 yX10_priced yX10_priced, Cond.code yX10_priced cX10_priced 3 (some .int), Cond.methodLink RX10 128 yX10_stocked, Cond.static yX10_stocked, Cond.code yX10_stocked cX10_stocked 5 (some .int), Cond.constantLong RX10 126 (99), Cond.methodLink RX10 41 yX10_pushes, Cond.instanceMethod yX10_pushes, Cond.selects RX10 yX10_pushes yX10_pushes, Cond.code yX10_pushes cX10_pushes 3 none, Cond.fieldLink RX10 36 "TicketScalesModel" "states" "I", Cond.fieldLink RX10 19 "TicketScalesModel" "was" "[I"]
def wsX10_run : List Cond := .code yX10_run cX10_run 5 (some .int) :: ((wsX10_run_r1 ++ (wsX10_run_r2 ++ (wsX10_run_r3 ++ (wsX10_run_r4 ++ (wsX10_run_r5 ++ wsX10_run_r6))))) ++ wsX100)
def wsX10_failure : List Cond := .code yX10_failure cX10_failure 2 (some .int) :: ([.constant RX10 40 (-100001), .fieldLink RX10 153 "TicketScalesModel" "hasFailed" "Z", .fieldLink RX10 26 "TicketScalesModel" "failed" "[I", .constant RX10 67 (-100009), .methodLink RX10 32 yX10_in, .static yX10_in, .initialized RX10, .code yX10_in cX10_in 3 (some .boolean)] ++ wsX100)
def wsX10_kept : List Cond := .code yX10_kept cX10_kept 3 (some .int) :: ([.fieldLink RX10 7 "TicketScalesModel" "d" "[I", .methodLink RX10 96 yX10_of, .instanceMethod yX10_of, .selects RX10 yX10_of yX10_of, .initialized RX10, .code yX10_of cX10_of 3 (some .int)] ++ wsX100)
def wsX10_stocks : List Cond := .code yX10_stocks cX10_stocks 3 (some .int) :: ([.fieldLink RX10 7 "TicketScalesModel" "d" "[I", .methodLink RX10 123 yX10_priced, .instanceMethod yX10_priced, .selects RX10 yX10_priced yX10_priced, .initialized RX10, .code yX10_priced cX10_priced 3 (some .int)] ++ wsX100)
def wsX10_count_r1 : List Cond := [Cond.fieldLink RX10 7 "TicketScalesModel" "d" "[I", Cond.fieldLink RX10 36 "TicketScalesModel" "states" "I", Cond.fieldLink RX10 138 "TicketScalesModel" "length" "I", Cond.constant RX10 40 (-100001), Cond.methodLink RX10 182 yX10_kept, Cond.instanceMethod yX10_kept, Cond.selects RX10 yX10_kept yX10_kept, Cond.initialized RX10, Cond.code yX10_kept cX10_kept 3 (some .int), Cond.methodLink RX10 96 yX10_of, Cond.instanceMethod yX10_of, Cond.selects RX10 yX10_of yX10_of, Cond.code yX10_of cX10_of 3 (some .int), Cond.methodLink RX10 134 yX10_pointsOfAll, Cond.instanceMethod yX10_pointsOfAll, Cond.selects RX10 yX10_pointsOfAll yX10_pointsOfAll, Cond.code yX10_pointsOfAll cX10_pointsOfAll 3 (some .int), Cond.methodLink RX10 185 yX10_stocks, Cond.instanceMethod yX10_stocks, Cond.selects RX10 yX10_stocks yX10_stocks, Cond.code yX10_stocks cX10_stocks 3 (some .int), Cond.methodLink RX10 123 yX10_priced, Cond.instanceMethod yX10_priced, Cond.selects RX10 yX10_priced yX10_priced]
def wsX10_count_r2 : List Cond := [Cond.code yX10_priced cX10_priced 3 (some .int)]
def wsX10_count : List Cond := .code yX10_count cX10_count 2 (some .int) :: ((wsX10_count_r1 ++ wsX10_count_r2) ++ wsX100)
def wsX10_kind : List Cond := .code yX10_kind cX10_kind 3 (some .int) :: ([.fieldLink RX10 7 "TicketScalesModel" "d" "[I", .constant RX10 40 (-100001), .methodLink RX10 68 yX10_isKind, .static yX10_isKind, .initialized RX10, .code yX10_isKind cX10_isKind 1 (some .boolean), .methodLink RX10 32 yX10_in, .static yX10_in, .code yX10_in cX10_in 3 (some .boolean)] ++ wsX100)
def wsX10_customer : List Cond := .code yX10_customer cX10_customer 3 (some .int) :: ([.constant RX10 40 (-100001), .constant RX10 67 (-100009), .methodLink RX10 93 yX10_isCustomer, .instanceMethod yX10_isCustomer, .selects RX10 yX10_isCustomer yX10_isCustomer, .initialized RX10, .code yX10_isCustomer cX10_isCustomer 2 (some .boolean), .fieldLink RX10 7 "TicketScalesModel" "d" "[I", .methodLink RX10 32 yX10_in, .static yX10_in, .code yX10_in cX10_in 3 (some .boolean), .methodLink RX10 96 yX10_of, .instanceMethod yX10_of, .selects RX10 yX10_of yX10_of, .code yX10_of cX10_of 3 (some .int)] ++ wsX100)
def wsX10_prize : List Cond := .code yX10_prize cX10_prize 3 (some .int) :: ([.constant RX10 40 (-100001), .methodLink RX10 120 yX10_isPrize, .instanceMethod yX10_isPrize, .selects RX10 yX10_isPrize yX10_isPrize, .initialized RX10, .code yX10_isPrize cX10_isPrize 2 (some .boolean), .fieldLink RX10 7 "TicketScalesModel" "d" "[I", .methodLink RX10 32 yX10_in, .static yX10_in, .code yX10_in cX10_in 3 (some .boolean), .methodLink RX10 123 yX10_priced, .instanceMethod yX10_priced, .selects RX10 yX10_priced yX10_priced, .code yX10_priced cX10_priced 3 (some .int)] ++ wsX100)
def wsX10_read : List Cond := .code yX10_read cX10_read 2 (some .int) :: ([.constant RX10 188 (3000000), .fieldLink RX10 7 "TicketScalesModel" "d" "[I", .constant RX10 40 (-100001), .methodLink RX10 32 yX10_in, .static yX10_in, .initialized RX10, .code yX10_in cX10_in 3 (some .boolean), .methodLink RX10 99 yX10_readsBy, .instanceMethod yX10_readsBy, .selects RX10 yX10_readsBy yX10_readsBy, .code yX10_readsBy cX10_readsBy 4 (some .int), .methodLink RX10 45 yX10_floors, .static yX10_floors, .code yX10_floors cX10_floors 3 (some .int)] ++ wsX100)
def wsX10_allowed_r1 : List Cond := [Cond.constant RX10 188 (3000000), Cond.constant RX10 40 (-100001), Cond.constant RX10 67 (-100009), Cond.fieldLink RX10 54 "TicketScalesModel" "least" "I", Cond.fieldLink RX10 60 "TicketScalesModel" "greatest" "I", Cond.methodLink RX10 32 yX10_in, Cond.static yX10_in, Cond.initialized RX10, Cond.code yX10_in cX10_in 3 (some .boolean), Cond.methodLink RX10 68 yX10_isKind, Cond.static yX10_isKind, Cond.code yX10_isKind cX10_isKind 1 (some .boolean), Cond.methodLink RX10 63 yX10_allows, Cond.instanceMethod yX10_allows, Cond.selects RX10 yX10_allows yX10_allows, Cond.code yX10_allows cX10_allows 6 (some .boolean), Cond.fieldLink RX10 7 "TicketScalesModel" "d" "[I", Cond.methodLink RX10 50 yX10_lowest, Cond.instanceMethod yX10_lowest, Cond.selects RX10 yX10_lowest yX10_lowest, Cond.code yX10_lowest cX10_lowest 2 (some .int), Cond.constant RX10 49 (-9000000), Cond.methodLink RX10 45 yX10_floors, Cond.static yX10_floors]
def wsX10_allowed_r2 : List Cond := [Cond.code yX10_floors cX10_floors 3 (some .int), Cond.methodLink RX10 57 yX10_highest, Cond.instanceMethod yX10_highest, Cond.selects RX10 yX10_highest yX10_highest, Cond.code yX10_highest cX10_highest 2 (some .int)]
def wsX10_allowed : List Cond := .code yX10_allowed cX10_allowed 4 (some .int) :: ((wsX10_allowed_r1 ++ wsX10_allowed_r2) ++ wsX100)
def wsX10_guess_r1 : List Cond := [Cond.constant RX10 188 (3000000), Cond.constant RX10 40 (-100001), Cond.methodLink RX10 32 yX10_in, Cond.static yX10_in, Cond.initialized RX10, Cond.code yX10_in cX10_in 3 (some .boolean), Cond.methodLink RX10 68 yX10_isKind, Cond.static yX10_isKind, Cond.code yX10_isKind cX10_isKind 1 (some .boolean), Cond.methodLink RX10 102 yX10_guesses, Cond.instanceMethod yX10_guesses, Cond.selects RX10 yX10_guesses yX10_guesses, Cond.code yX10_guesses cX10_guesses 6 (some .int), Cond.constant RX10 67 (-100009), Cond.fieldLink RX10 54 "TicketScalesModel" "least" "I", Cond.fieldLink RX10 60 "TicketScalesModel" "greatest" "I", Cond.fieldLink RX10 7 "TicketScalesModel" "d" "[I", Cond.methodLink RX10 63 yX10_allows, Cond.instanceMethod yX10_allows, Cond.selects RX10 yX10_allows yX10_allows, Cond.code yX10_allows cX10_allows 6 (some .boolean), Cond.methodLink RX10 50 yX10_lowest, Cond.instanceMethod yX10_lowest, Cond.selects RX10 yX10_lowest yX10_lowest]
def wsX10_guess_r2 : List Cond := [Cond.code yX10_lowest cX10_lowest 2 (some .int), Cond.constant RX10 49 (-9000000), Cond.methodLink RX10 45 yX10_floors, Cond.static yX10_floors, Cond.code yX10_floors cX10_floors 3 (some .int), Cond.methodLink RX10 57 yX10_highest, Cond.instanceMethod yX10_highest, Cond.selects RX10 yX10_highest yX10_highest, Cond.code yX10_highest cX10_highest 2 (some .int)]
def wsX10_guess : List Cond := .code yX10_guess cX10_guess 4 (some .int) :: ((wsX10_guess_r1 ++ wsX10_guess_r2) ++ wsX100)
def wsX10_apart : List Cond := .code yX10_apart cX10_apart 7 (some .int) :: ([.fieldLink RX10 7 "TicketScalesModel" "d" "[I", .methodLink RX10 99 yX10_readsBy, .instanceMethod yX10_readsBy, .selects RX10 yX10_readsBy yX10_readsBy, .initialized RX10, .code yX10_readsBy cX10_readsBy 4 (some .int), .methodLink RX10 45 yX10_floors, .static yX10_floors, .code yX10_floors cX10_floors 3 (some .int)] ++ wsX100)
def wsX10_apartUpTo : List Cond := .code yX10_apartUpTo cX10_apartUpTo 2 (some .int) :: ([.fieldLink RX10 7 "TicketScalesModel" "d" "[I", .constant RX10 40 (-100001), .methodLink RX10 68 yX10_isKind, .static yX10_isKind, .initialized RX10, .code yX10_isKind cX10_isKind 1 (some .boolean), .methodLink RX10 32 yX10_in, .static yX10_in, .code yX10_in cX10_in 3 (some .boolean), .methodLink RX10 189 yX10_apart, .instanceMethod yX10_apart, .selects RX10 yX10_apart yX10_apart, .code yX10_apart cX10_apart 7 (some .int), .methodLink RX10 99 yX10_readsBy, .instanceMethod yX10_readsBy, .selects RX10 yX10_readsBy yX10_readsBy, .code yX10_readsBy cX10_readsBy 4 (some .int), .methodLink RX10 45 yX10_floors, .static yX10_floors, .code yX10_floors cX10_floors 3 (some .int)] ++ wsX100)
def wsX10_bestStep : List Cond := .code yX10_bestStep cX10_bestStep 4 (some .int) :: ([.constant RX10 40 (-100001), .constant RX10 67 (-100009), .methodLink RX10 68 yX10_isKind, .static yX10_isKind, .initialized RX10, .code yX10_isKind cX10_isKind 1 (some .boolean), .methodLink RX10 32 yX10_in, .static yX10_in, .code yX10_in cX10_in 3 (some .boolean), .methodLink RX10 189 yX10_apart, .instanceMethod yX10_apart, .selects RX10 yX10_apart yX10_apart, .code yX10_apart cX10_apart 7 (some .int), .fieldLink RX10 7 "TicketScalesModel" "d" "[I", .methodLink RX10 99 yX10_readsBy, .instanceMethod yX10_readsBy, .selects RX10 yX10_readsBy yX10_readsBy, .code yX10_readsBy cX10_readsBy 4 (some .int), .methodLink RX10 45 yX10_floors, .static yX10_floors, .code yX10_floors cX10_floors 3 (some .int)] ++ wsX100)
def wsX10_mixes : List Cond := .code yX10_mixes cX10_mixes 8 (some .boolean) :: ([.fieldLink RX10 7 "TicketScalesModel" "d" "[I", .methodLink RX10 57 yX10_highest, .instanceMethod yX10_highest, .selects RX10 yX10_highest yX10_highest, .initialized RX10, .code yX10_highest cX10_highest 2 (some .int), .methodLink RX10 45 yX10_floors, .static yX10_floors, .code yX10_floors cX10_floors 3 (some .int), .methodLink RX10 50 yX10_lowest, .instanceMethod yX10_lowest, .selects RX10 yX10_lowest yX10_lowest, .code yX10_lowest cX10_lowest 2 (some .int), .constant RX10 49 (-9000000)] ++ wsX100)
def wsX10_mixed_r1 : List Cond := [Cond.constant RX10 188 (3000000), Cond.constant RX10 40 (-100001), Cond.constant RX10 67 (-100009), Cond.methodLink RX10 68 yX10_isKind, Cond.static yX10_isKind, Cond.initialized RX10, Cond.code yX10_isKind cX10_isKind 1 (some .boolean), Cond.methodLink RX10 32 yX10_in, Cond.static yX10_in, Cond.code yX10_in cX10_in 3 (some .boolean), Cond.methodLink RX10 192 yX10_mixes, Cond.instanceMethod yX10_mixes, Cond.selects RX10 yX10_mixes yX10_mixes, Cond.code yX10_mixes cX10_mixes 8 (some .boolean), Cond.fieldLink RX10 7 "TicketScalesModel" "d" "[I", Cond.methodLink RX10 57 yX10_highest, Cond.instanceMethod yX10_highest, Cond.selects RX10 yX10_highest yX10_highest, Cond.code yX10_highest cX10_highest 2 (some .int), Cond.methodLink RX10 45 yX10_floors, Cond.static yX10_floors, Cond.code yX10_floors cX10_floors 3 (some .int), Cond.methodLink RX10 50 yX10_lowest, Cond.instanceMethod yX10_lowest]
def wsX10_mixed_r2 : List Cond := [Cond.selects RX10 yX10_lowest yX10_lowest, Cond.code yX10_lowest cX10_lowest 2 (some .int), Cond.constant RX10 49 (-9000000)]
def wsX10_mixed : List Cond := .code yX10_mixed cX10_mixed 10 (some .int) :: ((wsX10_mixed_r1 ++ wsX10_mixed_r2) ++ wsX100)
def wsX10_given_r1 : List Cond := [Cond.fieldLink RX10 7 "TicketScalesModel" "d" "[I", Cond.constant RX10 67 (-100009), Cond.methodLink RX10 96 yX10_of, Cond.instanceMethod yX10_of, Cond.selects RX10 yX10_of yX10_of, Cond.initialized RX10, Cond.code yX10_of cX10_of 3 (some .int), Cond.methodLink RX10 102 yX10_guesses, Cond.instanceMethod yX10_guesses, Cond.selects RX10 yX10_guesses yX10_guesses, Cond.code yX10_guesses cX10_guesses 6 (some .int), Cond.fieldLink RX10 54 "TicketScalesModel" "least" "I", Cond.fieldLink RX10 60 "TicketScalesModel" "greatest" "I", Cond.methodLink RX10 63 yX10_allows, Cond.instanceMethod yX10_allows, Cond.selects RX10 yX10_allows yX10_allows, Cond.code yX10_allows cX10_allows 6 (some .boolean), Cond.methodLink RX10 50 yX10_lowest, Cond.instanceMethod yX10_lowest, Cond.selects RX10 yX10_lowest yX10_lowest, Cond.code yX10_lowest cX10_lowest 2 (some .int), Cond.constant RX10 49 (-9000000), Cond.methodLink RX10 45 yX10_floors, Cond.static yX10_floors]
def wsX10_given_r2 : List Cond := [Cond.code yX10_floors cX10_floors 3 (some .int), Cond.methodLink RX10 57 yX10_highest, Cond.instanceMethod yX10_highest, Cond.selects RX10 yX10_highest yX10_highest, Cond.code yX10_highest cX10_highest 2 (some .int)]
def wsX10_given : List Cond := .code yX10_given cX10_given 5 (some .int) :: ((wsX10_given_r1 ++ wsX10_given_r2) ++ wsX100)
def wsX10_would_r1 : List Cond := [Cond.constant RX10 40 (-100001), Cond.constant RX10 67 (-100009), Cond.constant RX10 115 (100000), Cond.methodLink RX10 32 yX10_in, Cond.static yX10_in, Cond.initialized RX10, Cond.code yX10_in cX10_in 3 (some .boolean), Cond.methodLink RX10 196 yX10_given, Cond.instanceMethod yX10_given, Cond.selects RX10 yX10_given yX10_given, Cond.code yX10_given cX10_given 5 (some .int), Cond.fieldLink RX10 7 "TicketScalesModel" "d" "[I", Cond.methodLink RX10 96 yX10_of, Cond.instanceMethod yX10_of, Cond.selects RX10 yX10_of yX10_of, Cond.code yX10_of cX10_of 3 (some .int), Cond.methodLink RX10 102 yX10_guesses, Cond.instanceMethod yX10_guesses, Cond.selects RX10 yX10_guesses yX10_guesses, Cond.code yX10_guesses cX10_guesses 6 (some .int), Cond.fieldLink RX10 54 "TicketScalesModel" "least" "I", Cond.fieldLink RX10 60 "TicketScalesModel" "greatest" "I", Cond.methodLink RX10 63 yX10_allows, Cond.instanceMethod yX10_allows]
def wsX10_would_r2 : List Cond := [Cond.selects RX10 yX10_allows yX10_allows, Cond.code yX10_allows cX10_allows 6 (some .boolean), Cond.methodLink RX10 50 yX10_lowest, Cond.instanceMethod yX10_lowest, Cond.selects RX10 yX10_lowest yX10_lowest, Cond.code yX10_lowest cX10_lowest 2 (some .int), Cond.constant RX10 49 (-9000000), Cond.methodLink RX10 45 yX10_floors, Cond.static yX10_floors, Cond.code yX10_floors cX10_floors 3 (some .int), Cond.methodLink RX10 57 yX10_highest, Cond.instanceMethod yX10_highest, Cond.selects RX10 yX10_highest yX10_highest, Cond.code yX10_highest cX10_highest 2 (some .int)]
def wsX10_would : List Cond := .code yX10_would cX10_would 3 (some .int) :: ((wsX10_would_r1 ++ wsX10_would_r2) ++ wsX100)
def wsX10_fairest_r1 : List Cond := [Cond.constant RX10 67 (-100009), Cond.methodLink RX10 196 yX10_given, Cond.instanceMethod yX10_given, Cond.selects RX10 yX10_given yX10_given, Cond.initialized RX10, Cond.code yX10_given cX10_given 5 (some .int), Cond.fieldLink RX10 7 "TicketScalesModel" "d" "[I", Cond.methodLink RX10 96 yX10_of, Cond.instanceMethod yX10_of, Cond.selects RX10 yX10_of yX10_of, Cond.code yX10_of cX10_of 3 (some .int), Cond.methodLink RX10 102 yX10_guesses, Cond.instanceMethod yX10_guesses, Cond.selects RX10 yX10_guesses yX10_guesses, Cond.code yX10_guesses cX10_guesses 6 (some .int), Cond.fieldLink RX10 54 "TicketScalesModel" "least" "I", Cond.fieldLink RX10 60 "TicketScalesModel" "greatest" "I", Cond.methodLink RX10 63 yX10_allows, Cond.instanceMethod yX10_allows, Cond.selects RX10 yX10_allows yX10_allows, Cond.code yX10_allows cX10_allows 6 (some .boolean), Cond.methodLink RX10 50 yX10_lowest, Cond.instanceMethod yX10_lowest, Cond.selects RX10 yX10_lowest yX10_lowest]
def wsX10_fairest_r2 : List Cond := [Cond.code yX10_lowest cX10_lowest 2 (some .int), Cond.constant RX10 49 (-9000000), Cond.methodLink RX10 45 yX10_floors, Cond.static yX10_floors, Cond.code yX10_floors cX10_floors 3 (some .int), Cond.methodLink RX10 57 yX10_highest, Cond.instanceMethod yX10_highest, Cond.selects RX10 yX10_highest yX10_highest, Cond.code yX10_highest cX10_highest 2 (some .int), Cond.methodLink RX10 109 yX10_far, Cond.static yX10_far, Cond.code yX10_far cX10_far 2 (some .int)]
def wsX10_fairest : List Cond := .code yX10_fairest cX10_fairest 4 (some .int) :: ((wsX10_fairest_r1 ++ wsX10_fairest_r2) ++ wsX100)
def wsX10_soldOut : List Cond := .code yX10_soldOut cX10_soldOut 6 (some .int) :: ([.constant RX10 40 (-100001), .constant RX10 67 (-100009), .methodLink RX10 120 yX10_isPrize, .instanceMethod yX10_isPrize, .selects RX10 yX10_isPrize yX10_isPrize, .initialized RX10, .code yX10_isPrize cX10_isPrize 2 (some .boolean), .fieldLink RX10 7 "TicketScalesModel" "d" "[I", .methodLink RX10 32 yX10_in, .static yX10_in, .code yX10_in cX10_in 3 (some .boolean), .methodLink RX10 123 yX10_priced, .instanceMethod yX10_priced, .selects RX10 yX10_priced yX10_priced, .code yX10_priced cX10_priced 3 (some .int), .methodLink RX10 128 yX10_stocked, .static yX10_stocked, .code yX10_stocked cX10_stocked 5 (some .int), .constantLong RX10 126 (99)] ++ wsX100)
def wsX10_ahead : List Cond := .code yX10_ahead cX10_ahead 4 (some .int) :: ([.fieldLink RX10 7 "TicketScalesModel" "d" "[I", .methodLink RX10 123 yX10_priced, .instanceMethod yX10_priced, .selects RX10 yX10_priced yX10_priced, .initialized RX10, .code yX10_priced cX10_priced 3 (some .int)] ++ wsX100)
def wsX10_shop : List Cond := .code yX10_shop cX10_shop 9 (some .int) :: ([.constant RX10 40 (-100001), .fieldLink RX10 7 "TicketScalesModel" "d" "[I", .methodLink RX10 93 yX10_isCustomer, .instanceMethod yX10_isCustomer, .selects RX10 yX10_isCustomer yX10_isCustomer, .initialized RX10, .code yX10_isCustomer cX10_isCustomer 2 (some .boolean), .methodLink RX10 32 yX10_in, .static yX10_in, .code yX10_in cX10_in 3 (some .boolean), .methodLink RX10 96 yX10_of, .instanceMethod yX10_of, .selects RX10 yX10_of yX10_of, .code yX10_of cX10_of 3 (some .int), .methodLink RX10 199 yX10_ahead, .instanceMethod yX10_ahead, .selects RX10 yX10_ahead yX10_ahead, .code yX10_ahead cX10_ahead 4 (some .int), .methodLink RX10 123 yX10_priced, .instanceMethod yX10_priced, .selects RX10 yX10_priced yX10_priced, .code yX10_priced cX10_priced 3 (some .int)] ++ wsX100)
def wsJ9_abs_0f7a4 : List Cond := .code yJ9_abs_0f7a4 cJ9_abs_0f7a4 1 (some .int) :: ([])
def wsJ9_max_7cf53 : List Cond := .code yJ9_max_7cf53 cJ9_max_7cf53 2 (some .int) :: ([])
def wsJ9_min_7cf53 : List Cond := .code yJ9_min_7cf53 cJ9_min_7cf53 2 (some .int) :: ([])
def wsL_law_r1 : List Cond := [Cond.classLink RL 7 RX9, Cond.instantiable RX9 3, Cond.initialized RX9, Cond.classLink RL 10 RX10, Cond.instantiable RX10 15, Cond.initialized RX10, Cond.methodLink RL 9 yX9_init, Cond.instanceMethod yX9_init, Cond.code yX9_init cX9_init 1 none, Cond.methodLink RX9 1 objectInit, Cond.instanceMethod objectInit, Cond.code objectInit ⟨#[0xb1]⟩ 1 none, Cond.classLink RX9 7 RX3, Cond.instantiable RX3 4, Cond.initialized RX3, Cond.fieldLink RX9 10 "TicketScales" "history" "LTicketScales$History;", Cond.classLink RX9 16 RX6, Cond.instantiable RX6 6, Cond.initialized RX6, Cond.fieldLink RX9 19 "TicketScales" "program" "LTicketScales$Program;", Cond.classLink RX9 23 RX5, Cond.instantiable RX5 7, Cond.initialized RX5, Cond.fieldLink RX9 26 "TicketScales" "trial" "LTicketScales$Prize;"]
def wsL_law_r2 : List Cond := [Cond.methodLink RX9 9 yX3_init, Cond.instanceMethod yX3_init, Cond.code yX3_init cX3_init 2 none, Cond.methodLink RX3 3 objectInit, Cond.classLink RX3 9 RX8, Cond.fieldLink RX3 11 "TicketScales$History" "earlier" "[LTicketScales$State;", Cond.instantiable RX8 3, Cond.initialized RX8, Cond.fieldLink RX3 18 "TicketScales$History" "now" "LTicketScales$State;", Cond.fieldLink RX3 22 "TicketScales$History" "spare" "LTicketScales$State;", Cond.methodLink RX3 17 yX8_init, Cond.instanceMethod yX8_init, Cond.code yX8_init cX8_init 2 none, Cond.methodLink RX8 3 objectInit, Cond.classLink RX8 9 RX0, Cond.instantiable RX0 9, Cond.initialized RX0, Cond.fieldLink RX8 12 "TicketScales$State" "counter" "LTicketScales$Counter;", Cond.fieldLink RX8 18 "TicketScales$State" "slots" "[LTicketScales$Counter;", Cond.arrayClass .boolean, Cond.fieldLink RX8 22 "TicketScales$State" "filled" "[Z", Cond.methodLink RX8 11 yX0_init, Cond.instanceMethod yX0_init, Cond.code yX0_init cX0_init 2 none]
def wsL_law_r3 : List Cond := [Cond.methodLink RX0 3 objectInit, Cond.classLink RX0 9 RX4, Cond.fieldLink RX0 11 "TicketScales$Counter" "kinds" "[LTicketScales$Kind;", Cond.classLink RX0 17 RX7, Cond.instantiable RX7 3, Cond.initialized RX7, Cond.fieldLink RX0 20 "TicketScales$Counter" "scale" "LTicketScales$Scale;", Cond.classLink RX0 24 RX1, Cond.fieldLink RX0 26 "TicketScales$Counter" "customers" "[LTicketScales$Customer;", Cond.classLink RX0 30 RX5, Cond.fieldLink RX0 32 "TicketScales$Counter" "prizes" "[LTicketScales$Prize;", Cond.fieldLink RX0 36 "TicketScales$Counter" "fee" "I", Cond.instantiable RX4 2, Cond.initialized RX4, Cond.instantiable RX1 6, Cond.initialized RX1, Cond.instanceMethod yX7_init, Cond.code yX7_init cX7_init 1 none, Cond.methodLink RX7 3 objectInit, Cond.fieldLink RX7 9 "TicketScales$Scale" "step" "I", Cond.fieldLink RX7 15 "TicketScales$Scale" "limit" "I", Cond.instanceMethod yX4_init, Cond.code yX4_init cX4_init 1 none, Cond.methodLink RX4 1 objectInit]
def wsL_law_r4 : List Cond := [Cond.fieldLink RX4 7 "TicketScales$Kind" "weight" "I", Cond.fieldLink RX4 13 "TicketScales$Kind" "spread" "I", Cond.instanceMethod yX1_init, Cond.code yX1_init cX1_init 1 none, Cond.methodLink RX1 3 objectInit, Cond.instanceMethod yX5_init, Cond.code yX5_init cX5_init 1 none, Cond.methodLink RX5 3 objectInit, Cond.instanceMethod yX6_init, Cond.code yX6_init cX6_init 1 none, Cond.methodLink RX6 3 objectInit, Cond.arrayClass .char, Cond.fieldLink RX6 9 "TicketScales$Program" "signs" "[C", Cond.arrayClass .int, Cond.fieldLink RX6 15 "TicketScales$Program" "numbers" "[I", Cond.classLink RX6 19 RX2, Cond.instantiable RX2 4, Cond.initialized RX2, Cond.fieldLink RX6 22 "TicketScales$Program" "failure" "LTicketScales$Failure;", Cond.instanceMethod yX2_init, Cond.code yX2_init cX2_init 1 none, Cond.methodLink RX2 3 objectInit, Cond.methodLink RL 12 yX10_init, Cond.instanceMethod yX10_init]
def wsL_law_r5 : List Cond := [Cond.code yX10_init cX10_init 2 none, Cond.methodLink RX10 1 objectInit, Cond.fieldLink RX10 7 "TicketScalesModel" "d" "[I", Cond.fieldLink RX10 13 "TicketScalesModel" "aside" "[I", Cond.fieldLink RX10 16 "TicketScalesModel" "begun" "[I", Cond.fieldLink RX10 19 "TicketScalesModel" "was" "[I", Cond.fieldLink RX10 22 "TicketScalesModel" "text" "[C", Cond.fieldLink RX10 26 "TicketScalesModel" "failed" "[I", Cond.fieldLink RX10 29 "TicketScalesModel" "got" "[I", Cond.methodLink RL 13 yX9_setKind, Cond.instanceMethod yX9_setKind, Cond.selects RX9 yX9_setKind yX9_setKind, Cond.code yX9_setKind cX9_setKind 4 (some .int), Cond.methodLink RX9 30 yX3_prepare, Cond.instanceMethod yX3_prepare, Cond.selects RX3 yX3_prepare yX3_prepare, Cond.code yX3_prepare cX3_prepare 1 none, Cond.methodLink RX3 25 yX8_copyFrom, Cond.instanceMethod yX8_copyFrom, Cond.selects RX8 yX8_copyFrom yX8_copyFrom, Cond.code yX8_copyFrom cX8_copyFrom 3 none, Cond.methodLink RX8 26 yX0_copyFrom, Cond.instanceMethod yX0_copyFrom, Cond.selects RX0 yX0_copyFrom yX0_copyFrom]
def wsL_law_r6 : List Cond := [Cond.code yX0_copyFrom cX0_copyFrom 3 none, Cond.fieldLink RX0 56 "TicketScales$Counter" "customerCount" "I", Cond.fieldLink RX0 59 "TicketScales$Counter" "prizeCount" "I", Cond.fieldLink RX0 62 "TicketScales$Counter" "rule" "I", Cond.fieldLink RX0 65 "TicketScales$Counter" "gift" "I", Cond.methodLink RX0 43 yX4_copyFrom, Cond.instanceMethod yX4_copyFrom, Cond.selects RX4 yX4_copyFrom yX4_copyFrom, Cond.code yX4_copyFrom cX4_copyFrom 2 none, Cond.methodLink RX0 47 yX1_copyFrom, Cond.instanceMethod yX1_copyFrom, Cond.selects RX1 yX1_copyFrom yX1_copyFrom, Cond.code yX1_copyFrom cX1_copyFrom 2 none, Cond.fieldLink RX1 9 "TicketScales$Customer" "points" "I", Cond.fieldLink RX1 15 "TicketScales$Customer" "kept" "Z", Cond.fieldLink RX1 19 "TicketScales$Customer" "kind" "I", Cond.fieldLink RX1 22 "TicketScales$Customer" "count" "I", Cond.fieldLink RX1 25 "TicketScales$Customer" "reading" "I", Cond.fieldLink RX1 28 "TicketScales$Customer" "guess" "I", Cond.methodLink RX0 50 yX5_copyFrom, Cond.instanceMethod yX5_copyFrom, Cond.selects RX5 yX5_copyFrom yX5_copyFrom, Cond.code yX5_copyFrom cX5_copyFrom 2 none, Cond.fieldLink RX5 9 "TicketScales$Prize" "price" "I"]
def wsL_law_r7 : List Cond := [Cond.fieldLink RX5 15 "TicketScales$Prize" "weight" "I", Cond.fieldLink RX5 18 "TicketScales$Prize" "stock" "I", Cond.fieldLink RX5 21 "TicketScales$Prize" "mark" "I", Cond.fieldLink RX5 24 "TicketScales$Prize" "box" "I", Cond.fieldLink RX5 27 "TicketScales$Prize" "sold" "I", Cond.fieldLink RX5 30 "TicketScales$Prize" "boxes" "I", Cond.methodLink RX0 53 yX7_copyFrom, Cond.instanceMethod yX7_copyFrom, Cond.selects RX7 yX7_copyFrom yX7_copyFrom, Cond.code yX7_copyFrom cX7_copyFrom 2 none, Cond.fieldLink RX7 18 "TicketScales$Scale" "bias" "I", Cond.methodLink RX9 33 yX9_counter, Cond.instanceMethod yX9_counter, Cond.selects RX9 yX9_counter yX9_counter, Cond.code yX9_counter cX9_counter 1 (some (.object "TicketScales$Counter")), Cond.fieldLink RX9 86 "TicketScales$History" "now" "LTicketScales$State;", Cond.fieldLink RX9 222 "TicketScales$State" "counter" "LTicketScales$Counter;", Cond.methodLink RX9 37 yX0_changeKind, Cond.instanceMethod yX0_changeKind, Cond.selects RX0 yX0_changeKind yX0_changeKind, Cond.code yX0_changeKind cX0_changeKind 6 (some .int), Cond.constant RX0 76 (-100001), Cond.fieldLink RX0 77 "TicketScales$Kind" "weight" "I", Cond.fieldLink RX0 80 "TicketScales$Kind" "spread" "I"]
def wsL_law_r8 : List Cond := [Cond.methodLink RX0 72 yX0_kindAt, Cond.instanceMethod yX0_kindAt, Cond.selects RX0 yX0_kindAt yX0_kindAt, Cond.code yX0_kindAt cX0_kindAt 2 (some (.object "TicketScales$Kind")), Cond.static yX9_within, Cond.code yX9_within cX9_within 3 (some .boolean), Cond.methodLink RX9 43 yX3_settle, Cond.instanceMethod yX3_settle, Cond.selects RX3 yX3_settle yX3_settle, Cond.code yX3_settle cX3_settle 2 (some .int), Cond.static yX9_isError, Cond.code yX9_isError cX9_isError 1 (some .boolean), Cond.constant RX9 145 (-100001), Cond.constant RX9 225 (-100002), Cond.constant RX9 226 (-100003), Cond.methodLink RX3 33 yX3_recordSpare, Cond.instanceMethod yX3_recordSpare, Cond.selects RX3 yX3_recordSpare yX3_recordSpare, Cond.code yX3_recordSpare cX3_recordSpare 2 none, Cond.fieldLink RX3 36 "TicketScales$History" "size" "I", Cond.methodLink RX3 40 yX3_dropOldest, Cond.instanceMethod yX3_dropOldest, Cond.selects RX3 yX3_dropOldest yX3_dropOldest, Cond.code yX3_dropOldest cX3_dropOldest 3 none]
def wsL_law_r9 : List Cond := [Cond.methodLink RL 17 yX10_setKind, Cond.instanceMethod yX10_setKind, Cond.selects RX10 yX10_setKind yX10_setKind, Cond.code yX10_setKind cX10_setKind 4 (some .int), Cond.methodLink RX10 72 yX10_keeps, Cond.instanceMethod yX10_keeps, Cond.selects RX10 yX10_keeps yX10_keeps, Cond.code yX10_keeps cX10_keeps 2 none, Cond.methodLink RX10 75 yX10_kinds, Cond.instanceMethod yX10_kinds, Cond.selects RX10 yX10_kinds yX10_kinds, Cond.code yX10_kinds cX10_kinds 5 (some .int), Cond.constant RX10 40 (-100001), Cond.methodLink RX10 68 yX10_isKind, Cond.static yX10_isKind, Cond.code yX10_isKind cX10_isKind 1 (some .boolean), Cond.methodLink RX10 32 yX10_in, Cond.static yX10_in, Cond.code yX10_in cX10_in 3 (some .boolean), Cond.methodLink RX10 79 yX10_acted, Cond.instanceMethod yX10_acted, Cond.selects RX10 yX10_acted yX10_acted, Cond.code yX10_acted cX10_acted 2 (some .int), Cond.methodLink RX10 41 yX10_pushes]
def wsL_law_r10 : List Cond := [Cond.instanceMethod yX10_pushes, Cond.selects RX10 yX10_pushes yX10_pushes, Cond.code yX10_pushes cX10_pushes 3 none, Cond.fieldLink RX10 36 "TicketScalesModel" "states" "I", Cond.methodLink RL 18 yX9_setScale, Cond.instanceMethod yX9_setScale, Cond.selects RX9 yX9_setScale yX9_setScale, Cond.code yX9_setScale cX9_setScale 3 (some .int), Cond.methodLink RX9 47 yX0_changeScale, Cond.instanceMethod yX0_changeScale, Cond.selects RX0 yX0_changeScale yX0_changeScale, Cond.code yX0_changeScale cX0_changeScale 3 (some .int), Cond.fieldLink RX0 83 "TicketScales$Scale" "step" "I", Cond.fieldLink RX0 86 "TicketScales$Scale" "limit" "I", Cond.fieldLink RX0 89 "TicketScales$Scale" "bias" "I", Cond.methodLink RX0 92 Lib.Math.min.name, Cond.static Lib.Math.min.name, Cond.initialized "java/lang/Math", Cond.code Lib.Math.min.name Lib.Math.min.code 2 (some .int), Cond.methodLink RX0 98 Lib.Math.max.name, Cond.static Lib.Math.max.name, Cond.code Lib.Math.max.name Lib.Math.max.code 2 (some .int), Cond.methodLink RL 22 yX10_setScale, Cond.instanceMethod yX10_setScale]
def wsL_law_r11 : List Cond := [Cond.selects RX10 yX10_setScale yX10_setScale, Cond.code yX10_setScale cX10_setScale 3 (some .int), Cond.methodLink RX10 82 yX10_scales, Cond.instanceMethod yX10_scales, Cond.selects RX10 yX10_scales yX10_scales, Cond.code yX10_scales cX10_scales 3 (some .int), Cond.methodLink RL 23 yX9_setBias, Cond.instanceMethod yX9_setBias, Cond.selects RX9 yX9_setBias yX9_setBias, Cond.code yX9_setBias cX9_setBias 2 (some .int), Cond.methodLink RX9 51 yX0_changeBias, Cond.instanceMethod yX0_changeBias, Cond.selects RX0 yX0_changeBias yX0_changeBias, Cond.code yX0_changeBias cX0_changeBias 3 (some .int), Cond.methodLink RL 27 yX10_setBias, Cond.instanceMethod yX10_setBias, Cond.selects RX10 yX10_setBias yX10_setBias, Cond.code yX10_setBias cX10_setBias 2 (some .int), Cond.methodLink RX10 85 yX10_sets, Cond.instanceMethod yX10_sets, Cond.selects RX10 yX10_sets yX10_sets, Cond.code yX10_sets cX10_sets 6 (some .int), Cond.methodLink RL 28 yX9_setRule, Cond.instanceMethod yX9_setRule]
def wsL_law_r12 : List Cond := [Cond.selects RX9 yX9_setRule yX9_setRule, Cond.code yX9_setRule cX9_setRule 2 (some .int), Cond.methodLink RX9 54 yX0_changeRule, Cond.instanceMethod yX0_changeRule, Cond.selects RX0 yX0_changeRule yX0_changeRule, Cond.code yX0_changeRule cX0_changeRule 3 (some .int), Cond.methodLink RL 31 yX10_setRule, Cond.instanceMethod yX10_setRule, Cond.selects RX10 yX10_setRule yX10_setRule, Cond.code yX10_setRule cX10_setRule 2 (some .int), Cond.methodLink RL 32 yX9_setFee, Cond.instanceMethod yX9_setFee, Cond.selects RX9 yX9_setFee yX9_setFee, Cond.code yX9_setFee cX9_setFee 2 (some .int), Cond.methodLink RX9 57 yX0_changeFee, Cond.instanceMethod yX0_changeFee, Cond.selects RX0 yX0_changeFee yX0_changeFee, Cond.code yX0_changeFee cX0_changeFee 3 (some .int), Cond.methodLink RL 35 yX10_setFee, Cond.instanceMethod yX10_setFee, Cond.selects RX10 yX10_setFee yX10_setFee, Cond.code yX10_setFee cX10_setFee 2 (some .int), Cond.methodLink RL 36 yX9_come, Cond.instanceMethod yX9_come]
def wsL_law_r13 : List Cond := [Cond.selects RX9 yX9_come yX9_come, Cond.code yX9_come cX9_come 2 (some .int), Cond.methodLink RX9 60 yX0_addCustomer, Cond.instanceMethod yX0_addCustomer, Cond.selects RX0 yX0_addCustomer yX0_addCustomer, Cond.code yX0_addCustomer cX0_addCustomer 2 (some .int), Cond.constant RX0 101 (-100003), Cond.methodLink RX0 102 yX1_begin, Cond.instanceMethod yX1_begin, Cond.selects RX1 yX1_begin yX1_begin, Cond.code yX1_begin cX1_begin 2 none, Cond.methodLink RL 39 yX10_come, Cond.instanceMethod yX10_come, Cond.selects RX10 yX10_come yX10_come, Cond.code yX10_come cX10_come 2 (some .int), Cond.methodLink RX10 90 yX10_comes, Cond.instanceMethod yX10_comes, Cond.selects RX10 yX10_comes yX10_comes, Cond.code yX10_comes cX10_comes 3 (some .int), Cond.constant RX10 89 (-100003), Cond.methodLink RL 40 yX9_leave, Cond.instanceMethod yX9_leave, Cond.selects RX9 yX9_leave yX9_leave, Cond.code yX9_leave cX9_leave 2 (some .int)]
def wsL_law_r14 : List Cond := [Cond.methodLink RX9 63 yX0_dropCustomer, Cond.instanceMethod yX0_dropCustomer, Cond.selects RX0 yX0_dropCustomer yX0_dropCustomer, Cond.code yX0_dropCustomer cX0_dropCustomer 5 (some .int), Cond.fieldLink RX0 110 "TicketScales$Customer" "points" "I", Cond.methodLink RX0 106 yX0_customerAt, Cond.instanceMethod yX0_customerAt, Cond.selects RX0 yX0_customerAt yX0_customerAt, Cond.code yX0_customerAt cX0_customerAt 3 (some (.object "TicketScales$Customer")), Cond.methodLink RL 43 yX10_leave, Cond.instanceMethod yX10_leave, Cond.selects RX10 yX10_leave yX10_leave, Cond.code yX10_leave cX10_leave 4 (some .int), Cond.methodLink RX10 93 yX10_isCustomer, Cond.instanceMethod yX10_isCustomer, Cond.selects RX10 yX10_isCustomer yX10_isCustomer, Cond.code yX10_isCustomer cX10_isCustomer 2 (some .boolean), Cond.methodLink RX10 96 yX10_of, Cond.instanceMethod yX10_of, Cond.selects RX10 yX10_of yX10_of, Cond.code yX10_of cX10_of 3 (some .int), Cond.methodLink RL 44 yX9_weigh, Cond.instanceMethod yX9_weigh, Cond.selects RX9 yX9_weigh yX9_weigh]
def wsL_law_r15 : List Cond := [Cond.code yX9_weigh cX9_weigh 5 (some .int), Cond.methodLink RX9 66 yX0_weighBundle, Cond.instanceMethod yX0_weighBundle, Cond.selects RX0 yX0_weighBundle yX0_weighBundle, Cond.code yX0_weighBundle cX0_weighBundle 10 (some .int), Cond.static yX9_readingAt, Cond.code yX9_readingAt cX9_readingAt 2 (some .int), Cond.methodLink RX9 235 Lib.Math.max.name, Cond.methodLink RX9 232 yX9_quotient, Cond.static yX9_quotient, Cond.code yX9_quotient cX9_quotient 2 (some .int), Cond.methodLink RX9 227 yJ9_floorDiv_7cf53, Cond.static yJ9_floorDiv_7cf53, Cond.initialized RJ9, Cond.code yJ9_floorDiv_7cf53 cJ9_floorDiv_7cf53 3 (some .int), Cond.methodLink RX0 116 yX7_guessFrom, Cond.instanceMethod yX7_guessFrom, Cond.selects RX7 yX7_guessFrom yX7_guessFrom, Cond.code yX7_guessFrom cX7_guessFrom 6 (some .int), Cond.constant RX7 57 (-100009), Cond.fieldLink RX7 58 "TicketScales$Kind" "weight" "I", Cond.methodLink RX7 64 Lib.Math.min.name, Cond.methodLink RX7 35 Lib.Math.max.name, Cond.methodLink RX7 50 yX7_leastCount]
def wsL_law_r16 : List Cond := [Cond.instanceMethod yX7_leastCount, Cond.selects RX7 yX7_leastCount yX7_leastCount, Cond.code yX7_leastCount cX7_leastCount 5 (some .int), Cond.methodLink RX7 21 yX4_heaviest, Cond.instanceMethod yX4_heaviest, Cond.selects RX4 yX4_heaviest yX4_heaviest, Cond.code yX4_heaviest cX4_heaviest 1 (some .int), Cond.methodLink RX7 27 yX7_loadFrom, Cond.instanceMethod yX7_loadFrom, Cond.selects RX7 yX7_loadFrom yX7_loadFrom, Cond.code yX7_loadFrom cX7_loadFrom 2 (some .int), Cond.methodLink RX7 54 yX7_greatestCount, Cond.instanceMethod yX7_greatestCount, Cond.selects RX7 yX7_greatestCount yX7_greatestCount, Cond.code yX7_greatestCount cX7_greatestCount 3 (some .int), Cond.methodLink RX7 40 yX7_shows, Cond.instanceMethod yX7_shows, Cond.selects RX7 yX7_shows yX7_shows, Cond.code yX7_shows cX7_shows 2 (some .boolean), Cond.methodLink RX7 44 yX7_loadTo, Cond.instanceMethod yX7_loadTo, Cond.selects RX7 yX7_loadTo yX7_loadTo, Cond.code yX7_loadTo cX7_loadTo 2 (some .int), Cond.methodLink RX7 47 yX4_lightest]
def wsL_law_r17 : List Cond := [Cond.instanceMethod yX4_lightest, Cond.selects RX4 yX4_lightest yX4_lightest, Cond.code yX4_lightest cX4_lightest 1 (some .int), Cond.methodLink RX7 61 yX7_nearestCount, Cond.instanceMethod yX7_nearestCount, Cond.selects RX7 yX7_nearestCount yX7_nearestCount, Cond.code yX7_nearestCount cX7_nearestCount 5 (some .int), Cond.methodLink RX0 120 yX1_gain, Cond.instanceMethod yX1_gain, Cond.selects RX1 yX1_gain yX1_gain, Cond.code yX1_gain cX1_gain 2 none, Cond.methodLink RX1 37 Lib.Math.max.name, Cond.methodLink RX0 123 yX1_keep, Cond.instanceMethod yX1_keep, Cond.selects RX1 yX1_keep yX1_keep, Cond.code yX1_keep cX1_keep 5 none, Cond.methodLink RL 48 yX10_weigh, Cond.instanceMethod yX10_weigh, Cond.selects RX10 yX10_weigh yX10_weigh, Cond.code yX10_weigh cX10_weigh 5 (some .int), Cond.methodLink RX10 105 yX10_weighs, Cond.instanceMethod yX10_weighs, Cond.selects RX10 yX10_weighs yX10_weighs, Cond.code yX10_weighs cX10_weighs 8 (some .int)]
def wsL_law_r18 : List Cond := [Cond.methodLink RX10 99 yX10_readsBy, Cond.instanceMethod yX10_readsBy, Cond.selects RX10 yX10_readsBy yX10_readsBy, Cond.code yX10_readsBy cX10_readsBy 4 (some .int), Cond.methodLink RX10 45 yX10_floors, Cond.static yX10_floors, Cond.code yX10_floors cX10_floors 3 (some .int), Cond.methodLink RX10 102 yX10_guesses, Cond.instanceMethod yX10_guesses, Cond.selects RX10 yX10_guesses yX10_guesses, Cond.code yX10_guesses cX10_guesses 6 (some .int), Cond.constant RX10 67 (-100009), Cond.fieldLink RX10 54 "TicketScalesModel" "least" "I", Cond.fieldLink RX10 60 "TicketScalesModel" "greatest" "I", Cond.methodLink RX10 63 yX10_allows, Cond.instanceMethod yX10_allows, Cond.selects RX10 yX10_allows yX10_allows, Cond.code yX10_allows cX10_allows 6 (some .boolean), Cond.methodLink RX10 50 yX10_lowest, Cond.instanceMethod yX10_lowest, Cond.selects RX10 yX10_lowest yX10_lowest, Cond.code yX10_lowest cX10_lowest 2 (some .int), Cond.constant RX10 49 (-9000000), Cond.methodLink RX10 57 yX10_highest]
def wsL_law_r19 : List Cond := [Cond.instanceMethod yX10_highest, Cond.selects RX10 yX10_highest yX10_highest, Cond.code yX10_highest cX10_highest 2 (some .int), Cond.methodLink RL 49 yX9_claim, Cond.instanceMethod yX9_claim, Cond.selects RX9 yX9_claim yX9_claim, Cond.code yX9_claim cX9_claim 3 (some .int), Cond.methodLink RX9 70 yX0_settleClaim, Cond.instanceMethod yX0_settleClaim, Cond.selects RX0 yX0_settleClaim yX0_settleClaim, Cond.code yX0_settleClaim cX0_settleClaim 5 (some .int), Cond.fieldLink RX0 127 "TicketScales$Customer" "kept" "Z", Cond.fieldLink RX0 131 "TicketScales$Customer" "guess" "I", Cond.constant RX0 134 (-100002), Cond.fieldLink RX0 135 "TicketScales$Customer" "kind" "I", Cond.fieldLink RX0 138 "TicketScales$Customer" "reading" "I", Cond.fieldLink RX0 145 "TicketScales$Customer" "count" "I", Cond.methodLink RX0 141 yX0_allows, Cond.instanceMethod yX0_allows, Cond.selects RX0 yX0_allows yX0_allows, Cond.code yX0_allows cX0_allows 4 (some .boolean), Cond.methodLink RX0 152 yX7_leastCount, Cond.methodLink RX0 156 yX7_greatestCount, Cond.methodLink RX0 148 yX1_isNearer]
def wsL_law_r20 : List Cond := [Cond.instanceMethod yX1_isNearer, Cond.selects RX1 yX1_isNearer yX1_isNearer, Cond.code yX1_isNearer cX1_isNearer 2 (some .boolean), Cond.methodLink RX1 31 Lib.Math.abs.name, Cond.static Lib.Math.abs.name, Cond.code Lib.Math.abs.name Lib.Math.abs.code 1 (some .int), Cond.methodLink RL 52 yX10_claim, Cond.instanceMethod yX10_claim, Cond.selects RX10 yX10_claim yX10_claim, Cond.code yX10_claim cX10_claim 3 (some .int), Cond.methodLink RX10 112 yX10_claims, Cond.instanceMethod yX10_claims, Cond.selects RX10 yX10_claims yX10_claims, Cond.code yX10_claims cX10_claims 6 (some .int), Cond.constant RX10 108 (-100002), Cond.methodLink RX10 109 yX10_far, Cond.static yX10_far, Cond.code yX10_far cX10_far 2 (some .int), Cond.methodLink RL 53 yX9_addPrize, Cond.instanceMethod yX9_addPrize, Cond.selects RX9 yX9_addPrize yX9_addPrize, Cond.code yX9_addPrize cX9_addPrize 6 (some .int), Cond.methodLink RX9 73 yX0_placePrize, Cond.instanceMethod yX0_placePrize]
def wsL_law_r21 : List Cond := [Cond.selects RX0 yX0_placePrize yX0_placePrize, Cond.code yX0_placePrize cX0_placePrize 6 (some .int), Cond.constant RX0 159 (100000), Cond.methodLink RX0 160 yX5_begin, Cond.instanceMethod yX5_begin, Cond.selects RX5 yX5_begin yX5_begin, Cond.code yX5_begin cX5_begin 6 none, Cond.methodLink RL 57 yX10_addPrize, Cond.instanceMethod yX10_addPrize, Cond.selects RX10 yX10_addPrize yX10_addPrize, Cond.code yX10_addPrize cX10_addPrize 6 (some .int), Cond.methodLink RX10 116 yX10_adds, Cond.instanceMethod yX10_adds, Cond.selects RX10 yX10_adds yX10_adds, Cond.code yX10_adds cX10_adds 7 (some .int), Cond.constant RX10 115 (100000), Cond.methodLink RL 58 yX9_removePrize, Cond.instanceMethod yX9_removePrize, Cond.selects RX9 yX9_removePrize yX9_removePrize, Cond.code yX9_removePrize cX9_removePrize 2 (some .int), Cond.methodLink RX9 77 yX0_dropPrize, Cond.instanceMethod yX0_dropPrize, Cond.selects RX0 yX0_dropPrize yX0_dropPrize, Cond.code yX0_dropPrize cX0_dropPrize 5 (some .int)]
def wsL_law_r22 : List Cond := [Cond.fieldLink RX0 167 "TicketScales$Prize" "stock" "I", Cond.methodLink RX0 163 yX0_prizeAt, Cond.instanceMethod yX0_prizeAt, Cond.selects RX0 yX0_prizeAt yX0_prizeAt, Cond.code yX0_prizeAt cX0_prizeAt 3 (some (.object "TicketScales$Prize")), Cond.methodLink RL 61 yX10_removePrize, Cond.instanceMethod yX10_removePrize, Cond.selects RX10 yX10_removePrize yX10_removePrize, Cond.code yX10_removePrize cX10_removePrize 4 (some .int), Cond.methodLink RX10 120 yX10_isPrize, Cond.instanceMethod yX10_isPrize, Cond.selects RX10 yX10_isPrize yX10_isPrize, Cond.code yX10_isPrize cX10_isPrize 2 (some .boolean), Cond.methodLink RX10 123 yX10_priced, Cond.instanceMethod yX10_priced, Cond.selects RX10 yX10_priced yX10_priced, Cond.code yX10_priced cX10_priced 3 (some .int), Cond.methodLink RL 62 yX9_setPrice, Cond.instanceMethod yX9_setPrice, Cond.selects RX9 yX9_setPrice yX9_setPrice, Cond.code yX9_setPrice cX9_setPrice 3 (some .int), Cond.methodLink RX9 80 yX0_changePrice, Cond.instanceMethod yX0_changePrice, Cond.selects RX0 yX0_changePrice yX0_changePrice]
def wsL_law_r23 : List Cond := [Cond.code yX0_changePrice cX0_changePrice 5 (some .int), Cond.fieldLink RX0 170 "TicketScales$Prize" "price" "I", Cond.methodLink RL 65 yX10_setPrice, Cond.instanceMethod yX10_setPrice, Cond.selects RX10 yX10_setPrice yX10_setPrice, Cond.code yX10_setPrice cX10_setPrice 3 (some .int), Cond.methodLink RL 66 yX9_buy, Cond.instanceMethod yX9_buy, Cond.selects RX9 yX9_buy yX9_buy, Cond.code yX9_buy cX9_buy 4 (some .int), Cond.methodLink RX9 83 yX0_sellPrize, Cond.instanceMethod yX0_sellPrize, Cond.selects RX0 yX0_sellPrize yX0_sellPrize, Cond.code yX0_sellPrize cX0_sellPrize 6 (some .int), Cond.methodLink RX0 173 yX5_sell, Cond.instanceMethod yX5_sell, Cond.selects RX5 yX5_sell yX5_sell, Cond.code yX5_sell cX5_sell 3 none, Cond.methodLink RX5 37 Lib.Math.min.name, Cond.methodLink RL 69 yX10_buy, Cond.instanceMethod yX10_buy, Cond.selects RX10 yX10_buy yX10_buy, Cond.code yX10_buy cX10_buy 4 (some .int), Cond.methodLink RX10 131 yX10_buys]
def wsL_law_r24 : List Cond := [Cond.instanceMethod yX10_buys, Cond.selects RX10 yX10_buys yX10_buys, Cond.code yX10_buys cX10_buys 7 (some .int), Cond.methodLink RX10 128 yX10_stocked, Cond.static yX10_stocked, Cond.code yX10_stocked cX10_stocked 5 (some .int), Cond.constantLong RX10 126 (99), Cond.methodLink RL 70 yX9_take, Cond.instanceMethod yX9_take, Cond.selects RX9 yX9_take yX9_take, Cond.code yX9_take cX9_take 2 (some .int), Cond.methodLink RX9 90 yX8_fillSlot, Cond.instanceMethod yX8_fillSlot, Cond.selects RX8 yX8_fillSlot yX8_fillSlot, Cond.code yX8_fillSlot cX8_fillSlot 2 (some .int), Cond.constant RX8 34 (-100001), Cond.methodLink RX8 35 yX0_allPoints, Cond.instanceMethod yX0_allPoints, Cond.selects RX0 yX0_allPoints yX0_allPoints, Cond.code yX0_allPoints cX0_allPoints 6 (some .int), Cond.methodLink RL 73 yX10_take, Cond.instanceMethod yX10_take, Cond.selects RX10 yX10_take yX10_take, Cond.code yX10_take cX10_take 4 (some .int)]
def wsL_law_r25 : List Cond := [Cond.methodLink RX10 134 yX10_pointsOfAll, Cond.instanceMethod yX10_pointsOfAll, Cond.selects RX10 yX10_pointsOfAll yX10_pointsOfAll, Cond.code yX10_pointsOfAll cX10_pointsOfAll 3 (some .int), Cond.methodLink RL 74 yX9_restore, Cond.instanceMethod yX9_restore, Cond.selects RX9 yX9_restore yX9_restore, Cond.code yX9_restore cX9_restore 2 (some .int), Cond.methodLink RX9 95 yX8_useSlot, Cond.instanceMethod yX8_useSlot, Cond.selects RX8 yX8_useSlot yX8_useSlot, Cond.code yX8_useSlot cX8_useSlot 2 (some .int), Cond.constant RX8 39 (-100002), Cond.methodLink RL 77 yX10_restore, Cond.instanceMethod yX10_restore, Cond.selects RX10 yX10_restore yX10_restore, Cond.code yX10_restore cX10_restore 4 (some .int), Cond.methodLink RL 78 yX9_undo, Cond.instanceMethod yX9_undo, Cond.selects RX9 yX9_undo yX9_undo, Cond.code yX9_undo cX9_undo 1 (some .int), Cond.methodLink RX9 98 yX3_stepBack, Cond.instanceMethod yX3_stepBack, Cond.selects RX3 yX3_stepBack yX3_stepBack]
def wsL_law_r26 : List Cond := [Cond.code yX3_stepBack cX3_stepBack 3 (some .int), Cond.constant RX3 47 (-100002), Cond.methodLink RL 82 yX10_undo, Cond.instanceMethod yX10_undo, Cond.selects RX10 yX10_undo yX10_undo, Cond.code yX10_undo cX10_undo 2 (some .int), Cond.methodLink RL 83 yX9_append, Cond.instanceMethod yX9_append, Cond.selects RX9 yX9_append yX9_append, Cond.code yX9_append cX9_append 2 (some .int), Cond.methodLink RX9 102 yX6_addSign, Cond.instanceMethod yX6_addSign, Cond.selects RX6 yX6_addSign yX6_addSign, Cond.code yX6_addSign cX6_addSign 2 (some .int), Cond.constant RX6 30 (-100001), Cond.fieldLink RX6 31 "TicketScales$Program" "length" "I", Cond.constant RX6 35 (-100003), Cond.methodLink RL 86 yX10_append, Cond.instanceMethod yX10_append, Cond.selects RX10 yX10_append yX10_append, Cond.code yX10_append cX10_append 2 (some .int), Cond.fieldLink RX10 138 "TicketScalesModel" "length" "I", Cond.methodLink RL 87 yX9_clearText, Cond.instanceMethod yX9_clearText]
def wsL_law_r27 : List Cond := [Cond.selects RX9 yX9_clearText yX9_clearText, Cond.code yX9_clearText cX9_clearText 1 (some .int), Cond.methodLink RX9 105 yX6_emptyText, Cond.instanceMethod yX6_emptyText, Cond.selects RX6 yX6_emptyText yX6_emptyText, Cond.code yX6_emptyText cX6_emptyText 2 (some .int), Cond.methodLink RL 90 yX10_clearText, Cond.instanceMethod yX10_clearText, Cond.selects RX10 yX10_clearText yX10_clearText, Cond.code yX10_clearText cX10_clearText 2 (some .int), Cond.methodLink RL 91 yX9_run, Cond.instanceMethod yX9_run, Cond.selects RX9 yX9_run yX9_run, Cond.code yX9_run cX9_run 2 (some .int), Cond.methodLink RX9 108 yX6_runOn, Cond.instanceMethod yX6_runOn, Cond.selects RX6 yX6_runOn yX6_runOn, Cond.code yX6_runOn cX6_runOn 6 (some .int), Cond.fieldLink RX6 36 "TicketScales$Program" "at" "I", Cond.fieldLink RX6 42 "TicketScales$Program" "start" "I", Cond.constant RX6 61 (-100009), Cond.methodLink RX6 39 yX6_readToken, Cond.instanceMethod yX6_readToken, Cond.selects RX6 yX6_readToken yX6_readToken]
def wsL_law_r28 : List Cond := [Cond.code yX6_readToken cX6_readToken 1 none, Cond.methodLink RX6 131 yX6_signAt, Cond.instanceMethod yX6_signAt, Cond.selects RX6 yX6_signAt yX6_signAt, Cond.code yX6_signAt cX6_signAt 2 (some .char), Cond.methodLink RX6 144 yX6_isLetter, Cond.static yX6_isLetter, Cond.code yX6_isLetter cX6_isLetter 1 (some .boolean), Cond.methodLink RX6 140 yX6_isDigit, Cond.static yX6_isDigit, Cond.code yX6_isDigit cX6_isDigit 1 (some .boolean), Cond.methodLink RX6 45 yX6_commandHere, Cond.instanceMethod yX6_commandHere, Cond.selects RX6 yX6_commandHere yX6_commandHere, Cond.code yX6_commandHere cX6_commandHere 1 (some .int), Cond.methodLink RX6 105 yX6_spells, Cond.instanceMethod yX6_spells, Cond.selects RX6 yX6_spells yX6_spells, Cond.code yX6_spells cX6_spells 3 (some .boolean), Cond.methodLink RX6 123 yJ0_length_8abf5, Cond.instanceMethod yJ0_length_8abf5, Cond.selects RJ0 yJ0_length_8abf5 yJ0_length_8abf5, Cond.initialized RJ0, Cond.code yJ0_length_8abf5 cJ0_length_8abf5 1 (some .int)]
def wsL_law_r29 : List Cond := [Cond.fieldLink RJ0 9 "java/lang/String" "value" "[B", Cond.methodLink RJ0 335 yJ0_coder_7d493, Cond.instanceMethod yJ0_coder_7d493, Cond.selects RJ0 yJ0_coder_7d493 yJ0_coder_7d493, Cond.code yJ0_coder_7d493 cJ0_coder_7d493 1 (some .byte), Cond.fieldLink RJ0 38 "java/lang/String" "COMPACT_STRINGS" "Z", Cond.fieldLink RJ0 15 "java/lang/String" "coder" "B", Cond.methodLink RX6 127 yJ0_charAt_5068e, Cond.instanceMethod yJ0_charAt_5068e, Cond.selects RJ0 yJ0_charAt_5068e yJ0_charAt_5068e, Cond.code yJ0_charAt_5068e cJ0_charAt_5068e 2 (some .char), Cond.methodLink RJ0 492 yJ0_isLatin1_aae02, Cond.instanceMethod yJ0_isLatin1_aae02, Cond.selects RJ0 yJ0_isLatin1_aae02 yJ0_isLatin1_aae02, Cond.code yJ0_isLatin1_aae02 cJ0_isLatin1_aae02 1 (some .boolean), Cond.methodLink RJ0 495 yJ1_charAt_3b067, Cond.static yJ1_charAt_3b067, Cond.initialized RJ1, Cond.code yJ1_charAt_3b067 cJ1_charAt_3b067 2 (some .char), Cond.methodLink RJ1 9 yJ0_checkIndex_df160, Cond.static yJ0_checkIndex_df160, Cond.code yJ0_checkIndex_df160 cJ0_checkIndex_df160 2 none, Cond.fieldLink RJ0 1053 "jdk/internal/util/Preconditions" "SIOOBE_FORMATTER" "Ljava/util/function/BiFunction;", Cond.methodLink RJ0 1059 yJ3_checkIndex_8e157]
def wsL_law_r30 : List Cond := [Cond.static yJ3_checkIndex_8e157, Cond.initialized RJ3, Cond.code yJ3_checkIndex_8e157 cJ3_checkIndex_8e157 3 (some .int), Cond.methodLink RJ0 498 yJ2_charAt_3b067, Cond.static yJ2_charAt_3b067, Cond.initialized RJ2, Cond.code yJ2_charAt_3b067 cJ2_charAt_3b067 2 (some .char), Cond.methodLink RJ2 67 yJ2_checkIndex_2214a, Cond.static yJ2_checkIndex_2214a, Cond.code yJ2_checkIndex_2214a cJ2_checkIndex_2214a 2 none, Cond.methodLink RJ2 48 yJ2_length_9d52b, Cond.static yJ2_length_9d52b, Cond.code yJ2_length_9d52b cJ2_length_9d52b 1 (some .int), Cond.methodLink RJ2 414 yJ0_checkIndex_df160, Cond.methodLink RJ2 71 yJ2_getChar_3b067, Cond.static yJ2_getChar_3b067, Cond.code yJ2_getChar_3b067 cJ2_getChar_3b067 2 (some .char), Cond.fieldLink RJ2 44 "java/lang/StringUTF16" "$assertionsDisabled" "Z", Cond.fieldLink RJ2 59 "java/lang/StringUTF16" "HI_BYTE_SHIFT" "I", Cond.fieldLink RJ2 63 "java/lang/StringUTF16" "LO_BYTE_SHIFT" "I", Cond.methodLink RX6 49 yX6_numbersOf, Cond.static yX6_numbersOf, Cond.code yX6_numbersOf cX6_numbersOf 1 (some .int), Cond.methodLink RX6 53 yX6_readNumbers]
def wsL_law_r31 : List Cond := [Cond.instanceMethod yX6_readNumbers, Cond.selects RX6 yX6_readNumbers yX6_readNumbers, Cond.code yX6_readNumbers cX6_readNumbers 3 (some .boolean), Cond.methodLink RX6 134 yX6_isNumber, Cond.instanceMethod yX6_isNumber, Cond.selects RX6 yX6_isNumber yX6_isNumber, Cond.code yX6_isNumber cX6_isNumber 2 (some .boolean), Cond.methodLink RX6 137 yX6_value, Cond.instanceMethod yX6_value, Cond.selects RX6 yX6_value yX6_value, Cond.code yX6_value cX6_value 3 (some .int), Cond.methodLink RX6 57 yX6_readEnd, Cond.instanceMethod yX6_readEnd, Cond.selects RX6 yX6_readEnd yX6_readEnd, Cond.code yX6_readEnd cX6_readEnd 1 (some .boolean), Cond.methodLink RX6 62 yX2_note, Cond.instanceMethod yX2_note, Cond.selects RX2 yX2_note yX2_note, Cond.code yX2_note cX2_note 4 none, Cond.fieldLink RX2 9 "TicketScales$Failure" "place" "I", Cond.fieldLink RX2 15 "TicketScales$Failure" "code" "I", Cond.fieldLink RX2 18 "TicketScales$Failure" "commands" "I", Cond.constant RX2 21 (-100009), Cond.fieldLink RX2 22 "TicketScales$Failure" "kind" "I"]
def wsL_law_r32 : List Cond := [Cond.constant RX2 25 (-100001), Cond.methodLink RX6 66 yX6_perform, Cond.instanceMethod yX6_perform, Cond.selects RX6 yX6_perform yX6_perform, Cond.code yX6_perform cX6_perform 3 (some .int), Cond.methodLink RX6 73 yX0_changeKind, Cond.methodLink RX6 79 yX0_changeScale, Cond.methodLink RX6 83 yX0_changeRule, Cond.methodLink RX6 86 yX0_addCustomer, Cond.methodLink RX6 89 yX0_placePrize, Cond.methodLink RX6 93 yX0_weighBundle, Cond.methodLink RX6 97 yX0_settleClaim, Cond.methodLink RX6 100 yX0_sellPrize, Cond.methodLink RX9 112 yX3_abandon, Cond.instanceMethod yX3_abandon, Cond.selects RX3 yX3_abandon yX3_abandon, Cond.code yX3_abandon cX3_abandon 2 none, Cond.methodLink RL 94 yX10_run, Cond.instanceMethod yX10_run, Cond.selects RX10 yX10_run yX10_run, Cond.code yX10_run cX10_run 5 (some .int), Cond.fieldLink RX10 141 "TicketScalesModel" "at" "I", Cond.fieldLink RX10 150 "TicketScalesModel" "sort" "I", Cond.fieldLink RX10 144 "TicketScalesModel" "from" "I"]
def wsL_law_r33 : List Cond := [Cond.methodLink RX10 157 yX10_reads, Cond.instanceMethod yX10_reads, Cond.selects RX10 yX10_reads yX10_reads, Cond.code yX10_reads cX10_reads 1 none, Cond.methodLink RX10 147 yX10_isIn, Cond.instanceMethod yX10_isIn, Cond.selects RX10 yX10_isIn yX10_isIn, Cond.code yX10_isIn cX10_isIn 3 (some .boolean), Cond.methodLink RX10 167 yX10_word, Cond.instanceMethod yX10_word, Cond.selects RX10 yX10_word yX10_word, Cond.code yX10_word cX10_word 3 (some .int), Cond.methodLink RX10 170 yX10_numbers, Cond.static yX10_numbers, Cond.code yX10_numbers cX10_numbers 1 (some .int), Cond.methodLink RX10 173 yX10_readsNumbers, Cond.instanceMethod yX10_readsNumbers, Cond.selects RX10 yX10_readsNumbers yX10_readsNumbers, Cond.code yX10_readsNumbers cX10_readsNumbers 3 (some .boolean), Cond.methodLink RX10 160 yX10_isNumber, Cond.instanceMethod yX10_isNumber, Cond.selects RX10 yX10_isNumber yX10_isNumber, Cond.code yX10_isNumber cX10_isNumber 1 (some .boolean), Cond.methodLink RX10 164 yX10_value]
def wsL_law_r34 : List Cond := [Cond.instanceMethod yX10_value, Cond.selects RX10 yX10_value yX10_value, Cond.code yX10_value cX10_value 3 (some .int), Cond.methodLink RX10 176 yX10_fails, Cond.instanceMethod yX10_fails, Cond.selects RX10 yX10_fails yX10_fails, Cond.code yX10_fails cX10_fails 6 (some .int), Cond.fieldLink RX10 153 "TicketScalesModel" "hasFailed" "Z", Cond.methodLink RX10 179 yX10_does, Cond.instanceMethod yX10_does, Cond.selects RX10 yX10_does yX10_does, Cond.code yX10_does cX10_does 2 (some .int), Cond.methodLink RL 95 yX9_failure, Cond.instanceMethod yX9_failure, Cond.selects RX9 yX9_failure yX9_failure, Cond.code yX9_failure cX9_failure 2 (some .int), Cond.fieldLink RX9 115 "TicketScales$Program" "failure" "LTicketScales$Failure;", Cond.methodLink RX9 119 yX2_part, Cond.instanceMethod yX2_part, Cond.selects RX2 yX2_part yX2_part, Cond.code yX2_part cX2_part 2 (some .int), Cond.methodLink RL 98 yX10_failure, Cond.instanceMethod yX10_failure, Cond.selects RX10 yX10_failure yX10_failure]
def wsL_law_r35 : List Cond := [Cond.code yX10_failure cX10_failure 2 (some .int), Cond.methodLink RL 99 yX9_count, Cond.instanceMethod yX9_count, Cond.selects RX9 yX9_count yX9_count, Cond.code yX9_count cX9_count 2 (some .int), Cond.fieldLink RX9 127 "TicketScales$History" "size" "I", Cond.fieldLink RX9 131 "TicketScales$Program" "length" "I", Cond.methodLink RX9 124 yX8_slotsInUse, Cond.instanceMethod yX8_slotsInUse, Cond.selects RX8 yX8_slotsInUse yX8_slotsInUse, Cond.code yX8_slotsInUse cX8_slotsInUse 6 (some .int), Cond.methodLink RX9 134 yX0_number, Cond.instanceMethod yX0_number, Cond.selects RX0 yX0_number yX0_number, Cond.code yX0_number cX0_number 2 (some .int), Cond.methodLink RX0 176 yX0_keptWeighings, Cond.instanceMethod yX0_keptWeighings, Cond.selects RX0 yX0_keptWeighings yX0_keptWeighings, Cond.code yX0_keptWeighings cX0_keptWeighings 6 (some .int), Cond.methodLink RX0 180 yX0_allPoints, Cond.methodLink RX0 183 yX0_allStocks, Cond.instanceMethod yX0_allStocks, Cond.selects RX0 yX0_allStocks yX0_allStocks, Cond.code yX0_allStocks cX0_allStocks 6 (some .int)]
def wsL_law_r36 : List Cond := [Cond.methodLink RL 102 yX10_count, Cond.instanceMethod yX10_count, Cond.selects RX10 yX10_count yX10_count, Cond.code yX10_count cX10_count 2 (some .int), Cond.methodLink RX10 182 yX10_kept, Cond.instanceMethod yX10_kept, Cond.selects RX10 yX10_kept yX10_kept, Cond.code yX10_kept cX10_kept 3 (some .int), Cond.methodLink RX10 185 yX10_stocks, Cond.instanceMethod yX10_stocks, Cond.selects RX10 yX10_stocks yX10_stocks, Cond.code yX10_stocks cX10_stocks 3 (some .int), Cond.methodLink RL 103 yX9_kind, Cond.instanceMethod yX9_kind, Cond.selects RX9 yX9_kind yX9_kind, Cond.code yX9_kind cX9_kind 4 (some .int), Cond.fieldLink RX9 146 "TicketScales$Kind" "weight" "I", Cond.fieldLink RX9 151 "TicketScales$Kind" "spread" "I", Cond.methodLink RX9 137 yX0_kindAt, Cond.methodLink RX9 141 yX9_within, Cond.methodLink RL 106 yX10_kind, Cond.instanceMethod yX10_kind, Cond.selects RX10 yX10_kind yX10_kind, Cond.code yX10_kind cX10_kind 3 (some .int)]
def wsL_law_r37 : List Cond := [Cond.methodLink RL 107 yX9_customer, Cond.instanceMethod yX9_customer, Cond.selects RX9 yX9_customer yX9_customer, Cond.code yX9_customer cX9_customer 4 (some .int), Cond.methodLink RX9 154 yX0_customerAt, Cond.methodLink RX9 158 yX1_part, Cond.instanceMethod yX1_part, Cond.selects RX1 yX1_part yX1_part, Cond.code yX1_part cX1_part 2 (some .int), Cond.constant RX1 45 (-100001), Cond.constant RX1 46 (-100009), Cond.methodLink RL 110 yX10_customer, Cond.instanceMethod yX10_customer, Cond.selects RX10 yX10_customer yX10_customer, Cond.code yX10_customer cX10_customer 3 (some .int), Cond.methodLink RL 111 yX9_prize, Cond.instanceMethod yX9_prize, Cond.selects RX9 yX9_prize yX9_prize, Cond.code yX9_prize cX9_prize 4 (some .int), Cond.methodLink RX9 161 yX0_prizeAt, Cond.methodLink RX9 165 yX5_part, Cond.instanceMethod yX5_part, Cond.selects RX5 yX5_part yX5_part, Cond.code yX5_part cX5_part 2 (some .int)]
def wsL_law_r38 : List Cond := [Cond.constant RX5 47 (-100001), Cond.methodLink RL 114 yX10_prize, Cond.instanceMethod yX10_prize, Cond.selects RX10 yX10_prize yX10_prize, Cond.code yX10_prize cX10_prize 3 (some .int), Cond.methodLink RL 115 yX9_read, Cond.instanceMethod yX9_read, Cond.selects RX9 yX9_read yX9_read, Cond.code yX9_read cX9_read 2 (some .int), Cond.constant RX9 166 (3000000), Cond.fieldLink RX9 167 "TicketScales$Counter" "scale" "LTicketScales$Scale;", Cond.fieldLink RX9 171 "TicketScales$Scale" "step" "I", Cond.methodLink RX9 176 yX9_readingAt, Cond.methodLink RL 118 yX10_read, Cond.instanceMethod yX10_read, Cond.selects RX10 yX10_read yX10_read, Cond.code yX10_read cX10_read 2 (some .int), Cond.constant RX10 188 (3000000), Cond.methodLink RL 119 yX9_allowed, Cond.instanceMethod yX9_allowed, Cond.selects RX9 yX9_allowed yX9_allowed, Cond.code yX9_allowed cX9_allowed 7 (some .int), Cond.constant RX9 186 (-100009), Cond.methodLink RX9 179 yX7_leastCount]
def wsL_law_r39 : List Cond := [Cond.methodLink RX9 183 yX7_greatestCount, Cond.methodLink RL 122 yX10_allowed, Cond.instanceMethod yX10_allowed, Cond.selects RX10 yX10_allowed yX10_allowed, Cond.code yX10_allowed cX10_allowed 4 (some .int), Cond.methodLink RL 123 yX9_guess, Cond.instanceMethod yX9_guess, Cond.selects RX9 yX9_guess yX9_guess, Cond.code yX9_guess cX9_guess 5 (some .int), Cond.methodLink RX9 187 yX7_guessFrom, Cond.methodLink RL 126 yX10_guess, Cond.instanceMethod yX10_guess, Cond.selects RX10 yX10_guess yX10_guess, Cond.code yX10_guess cX10_guess 4 (some .int), Cond.methodLink RL 127 yX9_apartUpTo, Cond.instanceMethod yX9_apartUpTo, Cond.selects RX9 yX9_apartUpTo yX9_apartUpTo, Cond.code yX9_apartUpTo cX9_apartUpTo 3 (some .int), Cond.methodLink RX9 191 yX7_lastApart, Cond.instanceMethod yX7_lastApart, Cond.selects RX7 yX7_lastApart yX7_lastApart, Cond.code yX7_lastApart cX7_lastApart 3 (some .int), Cond.methodLink RX7 70 yX7_apartFromNext, Cond.instanceMethod yX7_apartFromNext]
def wsL_law_r40 : List Cond := [Cond.selects RX7 yX7_apartFromNext yX7_apartFromNext, Cond.code yX7_apartFromNext cX7_apartFromNext 6 (some .boolean), Cond.methodLink RL 130 yX10_apartUpTo, Cond.instanceMethod yX10_apartUpTo, Cond.selects RX10 yX10_apartUpTo yX10_apartUpTo, Cond.code yX10_apartUpTo cX10_apartUpTo 2 (some .int), Cond.methodLink RX10 189 yX10_apart, Cond.instanceMethod yX10_apart, Cond.selects RX10 yX10_apart yX10_apart, Cond.code yX10_apart cX10_apart 7 (some .int), Cond.methodLink RL 131 yX9_bestStep, Cond.instanceMethod yX9_bestStep, Cond.selects RX9 yX9_bestStep yX9_bestStep, Cond.code yX9_bestStep cX9_bestStep 4 (some .int), Cond.methodLink RX9 195 yX7_greatestStep, Cond.instanceMethod yX7_greatestStep, Cond.selects RX7 yX7_greatestStep yX7_greatestStep, Cond.code yX7_greatestStep cX7_greatestStep 4 (some .int), Cond.methodLink RX7 74 yX7_allApart, Cond.instanceMethod yX7_allApart, Cond.selects RX7 yX7_allApart yX7_allApart, Cond.code yX7_allApart cX7_allApart 5 (some .boolean), Cond.methodLink RL 134 yX10_bestStep, Cond.instanceMethod yX10_bestStep]
def wsL_law_r41 : List Cond := [Cond.selects RX10 yX10_bestStep yX10_bestStep, Cond.code yX10_bestStep cX10_bestStep 4 (some .int), Cond.methodLink RL 135 yX9_mixed, Cond.instanceMethod yX9_mixed, Cond.selects RX9 yX9_mixed yX9_mixed, Cond.code yX9_mixed cX9_mixed 7 (some .int), Cond.methodLink RX9 199 yX7_mixedPairs, Cond.instanceMethod yX7_mixedPairs, Cond.selects RX7 yX7_mixedPairs yX7_mixedPairs, Cond.code yX7_mixedPairs cX7_mixedPairs 10 (some .int), Cond.methodLink RX7 77 yX7_pairsOf, Cond.instanceMethod yX7_pairsOf, Cond.selects RX7 yX7_pairsOf yX7_pairsOf, Cond.code yX7_pairsOf cX7_pairsOf 10 (some .int), Cond.methodLink RL 138 yX10_mixed, Cond.instanceMethod yX10_mixed, Cond.selects RX10 yX10_mixed yX10_mixed, Cond.code yX10_mixed cX10_mixed 10 (some .int), Cond.methodLink RX10 192 yX10_mixes, Cond.instanceMethod yX10_mixes, Cond.selects RX10 yX10_mixes yX10_mixes, Cond.code yX10_mixes cX10_mixes 8 (some .boolean), Cond.methodLink RL 139 yX9_would, Cond.instanceMethod yX9_would]
def wsL_law_r42 : List Cond := [Cond.selects RX9 yX9_would yX9_would, Cond.code yX9_would cX9_would 2 (some .int), Cond.methodLink RX9 203 yX0_given, Cond.instanceMethod yX0_given, Cond.selects RX0 yX0_given yX0_given, Cond.code yX0_given cX0_given 9 (some .int), Cond.constant RX0 186 (-100009), Cond.methodLink RL 142 yX10_would, Cond.instanceMethod yX10_would, Cond.selects RX10 yX10_would yX10_would, Cond.code yX10_would cX10_would 3 (some .int), Cond.methodLink RX10 196 yX10_given, Cond.instanceMethod yX10_given, Cond.selects RX10 yX10_given yX10_given, Cond.code yX10_given cX10_given 5 (some .int), Cond.methodLink RL 143 yX9_fairest, Cond.instanceMethod yX9_fairest, Cond.selects RX9 yX9_fairest yX9_fairest, Cond.code yX9_fairest cX9_fairest 1 (some .int), Cond.methodLink RX9 206 yX0_fairestRule, Cond.instanceMethod yX0_fairestRule, Cond.selects RX0 yX0_fairestRule yX0_fairestRule, Cond.code yX0_fairestRule cX0_fairestRule 6 (some .int), Cond.methodLink RX0 191 Lib.Math.abs.name]
def wsL_law_r43 : List Cond := [Cond.methodLink RX0 187 yX0_given, Cond.methodLink RL 146 yX10_fairest, Cond.instanceMethod yX10_fairest, Cond.selects RX10 yX10_fairest yX10_fairest, Cond.code yX10_fairest cX10_fairest 4 (some .int), Cond.methodLink RL 147 yX9_soldOut, Cond.instanceMethod yX9_soldOut, Cond.selects RX9 yX9_soldOut yX9_soldOut, Cond.code yX9_soldOut cX9_soldOut 3 (some .int), Cond.methodLink RX9 209 yX5_copyFrom, Cond.methodLink RX9 213 yX5_sellOut, Cond.instanceMethod yX5_sellOut, Cond.selects RX5 yX5_sellOut yX5_sellOut, Cond.code yX5_sellOut cX5_sellOut 2 (some .int), Cond.constant RX5 46 (-100009), Cond.methodLink RX5 42 yX5_sell, Cond.methodLink RL 150 yX10_soldOut, Cond.instanceMethod yX10_soldOut, Cond.selects RX10 yX10_soldOut yX10_soldOut, Cond.code yX10_soldOut cX10_soldOut 6 (some .int), Cond.methodLink RL 151 yX9_shop, Cond.instanceMethod yX9_shop, Cond.selects RX9 yX9_shop yX9_shop, Cond.code yX9_shop cX9_shop 4 (some .int)]
def wsL_law_r44 : List Cond := [Cond.fieldLink RX9 216 "TicketScales$Customer" "points" "I", Cond.methodLink RX9 219 yX0_shopWith, Cond.instanceMethod yX0_shopWith, Cond.selects RX0 yX0_shopWith yX0_shopWith, Cond.code yX0_shopWith cX0_shopWith 10 (some .int), Cond.fieldLink RX0 200 "TicketScales$Prize" "weight" "I", Cond.methodLink RX0 194 yX0_nextByPrice, Cond.instanceMethod yX0_nextByPrice, Cond.selects RX0 yX0_nextByPrice yX0_nextByPrice, Cond.code yX0_nextByPrice cX0_nextByPrice 4 (some .int), Cond.methodLink RX0 201 yX0_isBehind, Cond.instanceMethod yX0_isBehind, Cond.selects RX0 yX0_isBehind yX0_isBehind, Cond.code yX0_isBehind cX0_isBehind 5 (some .boolean), Cond.methodLink RL 154 yX10_shop, Cond.instanceMethod yX10_shop, Cond.selects RX10 yX10_shop yX10_shop, Cond.code yX10_shop cX10_shop 9 (some .int), Cond.methodLink RX10 199 yX10_ahead, Cond.instanceMethod yX10_ahead, Cond.selects RX10 yX10_ahead yX10_ahead, Cond.code yX10_ahead cX10_ahead 4 (some .int)]
def wsL_law : List Cond := (wsL_law_r1 ++ (wsL_law_r2 ++ (wsL_law_r3 ++ (wsL_law_r4 ++ (wsL_law_r5 ++ (wsL_law_r6 ++ (wsL_law_r7 ++ (wsL_law_r8 ++ (wsL_law_r9 ++ (wsL_law_r10 ++ (wsL_law_r11 ++ (wsL_law_r12 ++ (wsL_law_r13 ++ (wsL_law_r14 ++ (wsL_law_r15 ++ (wsL_law_r16 ++ (wsL_law_r17 ++ (wsL_law_r18 ++ (wsL_law_r19 ++ (wsL_law_r20 ++ (wsL_law_r21 ++ (wsL_law_r22 ++ (wsL_law_r23 ++ (wsL_law_r24 ++ (wsL_law_r25 ++ (wsL_law_r26 ++ (wsL_law_r27 ++ (wsL_law_r28 ++ (wsL_law_r29 ++ (wsL_law_r30 ++ (wsL_law_r31 ++ (wsL_law_r32 ++ (wsL_law_r33 ++ (wsL_law_r34 ++ (wsL_law_r35 ++ (wsL_law_r36 ++ (wsL_law_r37 ++ (wsL_law_r38 ++ (wsL_law_r39 ++ (wsL_law_r40 ++ (wsL_law_r41 ++ (wsL_law_r42 ++ (wsL_law_r43 ++ wsL_law_r44))))))))))))))))))))))))))))))))))))))))))) ++ wsX90 ++ wsX100 ++ wsX30 ++ wsX60 ++ wsX50 ++ wsX80 ++ wsX00 ++ wsX70 ++ wsX40 ++ wsX10 ++ wsX20 ++ ([] : List Cond)
set_option maxRecDepth 20000 in
theorem gin_wsL_law_r1 : GoodIn lw_tbl wsL_law_r1 := goodIn_p _ [77, 80] rfl (by decide +kernel)
set_option maxRecDepth 20000 in
theorem gin_wsL_law_r2 : GoodIn lw_tbl wsL_law_r2 := goodIn_p _ [85, 92, 98] rfl (by decide +kernel)
set_option maxRecDepth 20000 in
theorem gin_wsL_law_r3 : GoodIn lw_tbl wsL_law_r3 := goodIn_p _ [106, 129] rfl (by decide +kernel)
set_option maxRecDepth 20000 in
theorem gin_wsL_law_r4 : GoodIn lw_tbl wsL_law_r4 := goodIn_p _ [146, 177, 265, 271] rfl (by decide +kernel)
set_option maxRecDepth 20000 in
theorem gin_wsL_law_r5 : GoodIn lw_tbl wsL_law_r5 := goodIn_p _ [932, 324, 328, 332] rfl (by decide +kernel)
set_option maxRecDepth 20000 in
theorem gin_wsL_law_r6 : GoodIn lw_tbl wsL_law_r6 := goodIn_p _ [336, 340, 344, 348] rfl (by decide +kernel)
set_option maxRecDepth 20000 in
theorem gin_wsL_law_r7 : GoodIn lw_tbl wsL_law_r7 := goodIn_p _ [352, 356, 360] rfl (by decide +kernel)
set_option maxRecDepth 20000 in
theorem gin_wsL_law_r8 : GoodIn lw_tbl wsL_law_r8 := goodIn_p _ [364, 367, 372, 375, 382, 386] rfl (by decide +kernel)
set_option maxRecDepth 20000 in
theorem gin_wsL_law_r9 : GoodIn lw_tbl wsL_law_r9 := goodIn_p _ [983, 987, 991, 994, 997, 1002] rfl (by decide +kernel)
set_option maxRecDepth 20000 in
theorem gin_wsL_law_r10 : GoodIn lw_tbl wsL_law_r10 := goodIn_p _ [1006, 391, 395, 398, 401] rfl (by decide +kernel)
set_option maxRecDepth 20000 in
theorem gin_wsL_law_r11 : GoodIn lw_tbl wsL_law_r11 := goodIn_p _ [1010, 1014, 405, 409, 1018, 1022] rfl (by decide +kernel)
set_option maxRecDepth 20000 in
theorem gin_wsL_law_r12 : GoodIn lw_tbl wsL_law_r12 := goodIn_p _ [413, 417, 1026, 421, 425, 1030] rfl (by decide +kernel)
set_option maxRecDepth 20000 in
theorem gin_wsL_law_r13 : GoodIn lw_tbl wsL_law_r13 := goodIn_p _ [429, 433, 438, 1034, 1038, 442] rfl (by decide +kernel)
set_option maxRecDepth 20000 in
theorem gin_wsL_law_r14 : GoodIn lw_tbl wsL_law_r14 := goodIn_p _ [446, 450, 1043, 1047, 1051] rfl (by decide +kernel)
set_option maxRecDepth 20000 in
theorem gin_wsL_law_r15 : GoodIn lw_tbl wsL_law_r15 := goodIn_p _ [454, 458, 461, 464, 467, 472] rfl (by decide +kernel)
set_option maxRecDepth 20000 in
theorem gin_wsL_law_r16 : GoodIn lw_tbl wsL_law_r16 := goodIn_p _ [476, 480, 484, 490, 494, 498] rfl (by decide +kernel)
set_option maxRecDepth 20000 in
theorem gin_wsL_law_r17 : GoodIn lw_tbl wsL_law_r17 := goodIn_p _ [502, 507, 512, 517, 1055, 1059] rfl (by decide +kernel)
set_option maxRecDepth 20000 in
theorem gin_wsL_law_r18 : GoodIn lw_tbl wsL_law_r18 := goodIn_p _ [1063, 1066, 1070, 1074, 1078] rfl (by decide +kernel)
set_option maxRecDepth 20000 in
theorem gin_wsL_law_r19 : GoodIn lw_tbl wsL_law_r19 := goodIn_p _ [1083, 521, 525, 530] rfl (by decide +kernel)
set_option maxRecDepth 20000 in
theorem gin_wsL_law_r20 : GoodIn lw_tbl wsL_law_r20 := goodIn_p _ [536, 539, 1088, 1092, 1096, 543] rfl (by decide +kernel)
set_option maxRecDepth 20000 in
theorem gin_wsL_law_r21 : GoodIn lw_tbl wsL_law_r21 := goodIn_p _ [547, 552, 1100, 1104, 556, 560] rfl (by decide +kernel)
set_option maxRecDepth 20000 in
theorem gin_wsL_law_r22 : GoodIn lw_tbl wsL_law_r22 := goodIn_p _ [564, 1109, 1113, 1117, 568] rfl (by decide +kernel)
set_option maxRecDepth 20000 in
theorem gin_wsL_law_r23 : GoodIn lw_tbl wsL_law_r23 := goodIn_p _ [572, 1121, 576, 580, 584, 1125] rfl (by decide +kernel)
set_option maxRecDepth 20000 in
theorem gin_wsL_law_r24 : GoodIn lw_tbl wsL_law_r24 := goodIn_p _ [1129, 1132, 590, 594, 600, 1137] rfl (by decide +kernel)
set_option maxRecDepth 20000 in
theorem gin_wsL_law_r25 : GoodIn lw_tbl wsL_law_r25 := goodIn_p _ [1141, 604, 608, 1145, 613] rfl (by decide +kernel)
set_option maxRecDepth 20000 in
theorem gin_wsL_law_r26 : GoodIn lw_tbl wsL_law_r26 := goodIn_p _ [617, 1149, 622, 626, 1153] rfl (by decide +kernel)
set_option maxRecDepth 20000 in
theorem gin_wsL_law_r27 : GoodIn lw_tbl wsL_law_r27 := goodIn_p _ [633, 637, 1157, 641, 645] rfl (by decide +kernel)
set_option maxRecDepth 20000 in
theorem gin_wsL_law_r28 : GoodIn lw_tbl wsL_law_r28 := goodIn_p _ [649, 653, 656, 659, 663, 668, 672] rfl (by decide +kernel)
set_option maxRecDepth 20000 in
theorem gin_wsL_law_r29 : GoodIn lw_tbl wsL_law_r29 := goodIn_p _ [676, 682, 686, 689, 692] rfl (by decide +kernel)
set_option maxRecDepth 20000 in
theorem gin_wsL_law_r30 : GoodIn lw_tbl wsL_law_r30 := goodIn_p _ [697, 700, 703, 706, 710, 726] rfl (by decide +kernel)
set_option maxRecDepth 20000 in
theorem gin_wsL_law_r31 : GoodIn lw_tbl wsL_law_r31 := goodIn_p _ [730, 734, 738, 742, 747] rfl (by decide +kernel)
set_option maxRecDepth 20000 in
theorem gin_wsL_law_r32 : GoodIn lw_tbl wsL_law_r32 := goodIn_p _ [753, 766, 1161] rfl (by decide +kernel)
set_option maxRecDepth 20000 in
theorem gin_wsL_law_r33 : GoodIn lw_tbl wsL_law_r33 := goodIn_p _ [1165, 1169, 1173, 1176, 1180, 1184] rfl (by decide +kernel)
set_option maxRecDepth 20000 in
theorem gin_wsL_law_r34 : GoodIn lw_tbl wsL_law_r34 := goodIn_p _ [1188, 1192, 1196, 771, 775] rfl (by decide +kernel)
set_option maxRecDepth 20000 in
theorem gin_wsL_law_r35 : GoodIn lw_tbl wsL_law_r35 := goodIn_p _ [1200, 780, 784, 788, 792, 797] rfl (by decide +kernel)
set_option maxRecDepth 20000 in
theorem gin_wsL_law_r36 : GoodIn lw_tbl wsL_law_r36 := goodIn_p _ [1204, 1208, 1212, 801, 1216] rfl (by decide +kernel)
set_option maxRecDepth 20000 in
theorem gin_wsL_law_r37 : GoodIn lw_tbl wsL_law_r37 := goodIn_p _ [807, 812, 1220, 819, 824] rfl (by decide +kernel)
set_option maxRecDepth 20000 in
theorem gin_wsL_law_r38 : GoodIn lw_tbl wsL_law_r38 := goodIn_p _ [1224, 829, 1228, 835] rfl (by decide +kernel)
set_option maxRecDepth 20000 in
theorem gin_wsL_law_r39 : GoodIn lw_tbl wsL_law_r39 := goodIn_p _ [1233, 842, 1237, 847, 851] rfl (by decide +kernel)
set_option maxRecDepth 20000 in
theorem gin_wsL_law_r40 : GoodIn lw_tbl wsL_law_r40 := goodIn_p _ [855, 1241, 1245, 860, 864, 868] rfl (by decide +kernel)
set_option maxRecDepth 20000 in
theorem gin_wsL_law_r41 : GoodIn lw_tbl wsL_law_r41 := goodIn_p _ [1249, 872, 876, 880, 1253, 1257] rfl (by decide +kernel)
set_option maxRecDepth 20000 in
theorem gin_wsL_law_r42 : GoodIn lw_tbl wsL_law_r42 := goodIn_p _ [884, 888, 1261, 1265, 893, 897] rfl (by decide +kernel)
set_option maxRecDepth 20000 in
theorem gin_wsL_law_r43 : GoodIn lw_tbl wsL_law_r43 := goodIn_p _ [1269, 903, 908, 1273, 914] rfl (by decide +kernel)
set_option maxRecDepth 20000 in
theorem gin_wsL_law_r44 : GoodIn lw_tbl wsL_law_r44 := goodIn_p _ [918, 922, 926, 1277, 1281] rfl (by decide +kernel)
set_option maxRecDepth 20000 in
theorem gin_wsX90 : GoodIn lw_tbl wsX90 := goodIn_p _ [] rfl (by decide +kernel)
set_option maxRecDepth 20000 in
theorem gin_wsX100 : GoodIn lw_tbl wsX100 := goodIn_p _ [] rfl (by decide +kernel)
set_option maxRecDepth 20000 in
theorem gin_wsX30 : GoodIn lw_tbl wsX30 := goodIn_p _ [] rfl (by decide +kernel)
set_option maxRecDepth 20000 in
theorem gin_wsX60 : GoodIn lw_tbl wsX60 := goodIn_p _ [] rfl (by decide +kernel)
set_option maxRecDepth 20000 in
theorem gin_wsX50 : GoodIn lw_tbl wsX50 := goodIn_p _ [] rfl (by decide +kernel)
set_option maxRecDepth 20000 in
theorem gin_wsX80 : GoodIn lw_tbl wsX80 := goodIn_p _ [] rfl (by decide +kernel)
set_option maxRecDepth 20000 in
theorem gin_wsX00 : GoodIn lw_tbl wsX00 := goodIn_p _ [] rfl (by decide +kernel)
set_option maxRecDepth 20000 in
theorem gin_wsX70 : GoodIn lw_tbl wsX70 := goodIn_p _ [] rfl (by decide +kernel)
set_option maxRecDepth 20000 in
theorem gin_wsX40 : GoodIn lw_tbl wsX40 := goodIn_p _ [] rfl (by decide +kernel)
set_option maxRecDepth 20000 in
theorem gin_wsX10 : GoodIn lw_tbl wsX10 := goodIn_p _ [] rfl (by decide +kernel)
set_option maxRecDepth 20000 in
theorem gin_wsX20 : GoodIn lw_tbl wsX20 := goodIn_p _ [] rfl (by decide +kernel)
theorem wsL_law_gd : GoodIn lw_tbl wsL_law := (goodIn_app (goodIn_app (goodIn_app (goodIn_app (goodIn_app (goodIn_app (goodIn_app (goodIn_app (goodIn_app (goodIn_app (goodIn_app (goodIn_app (goodIn_app gin_wsL_law_r1 (goodIn_app gin_wsL_law_r2 (goodIn_app gin_wsL_law_r3 (goodIn_app gin_wsL_law_r4 (goodIn_app gin_wsL_law_r5 (goodIn_app gin_wsL_law_r6 (goodIn_app gin_wsL_law_r7 (goodIn_app gin_wsL_law_r8 (goodIn_app gin_wsL_law_r9 (goodIn_app gin_wsL_law_r10 (goodIn_app gin_wsL_law_r11 (goodIn_app gin_wsL_law_r12 (goodIn_app gin_wsL_law_r13 (goodIn_app gin_wsL_law_r14 (goodIn_app gin_wsL_law_r15 (goodIn_app gin_wsL_law_r16 (goodIn_app gin_wsL_law_r17 (goodIn_app gin_wsL_law_r18 (goodIn_app gin_wsL_law_r19 (goodIn_app gin_wsL_law_r20 (goodIn_app gin_wsL_law_r21 (goodIn_app gin_wsL_law_r22 (goodIn_app gin_wsL_law_r23 (goodIn_app gin_wsL_law_r24 (goodIn_app gin_wsL_law_r25 (goodIn_app gin_wsL_law_r26 (goodIn_app gin_wsL_law_r27 (goodIn_app gin_wsL_law_r28 (goodIn_app gin_wsL_law_r29 (goodIn_app gin_wsL_law_r30 (goodIn_app gin_wsL_law_r31 (goodIn_app gin_wsL_law_r32 (goodIn_app gin_wsL_law_r33 (goodIn_app gin_wsL_law_r34 (goodIn_app gin_wsL_law_r35 (goodIn_app gin_wsL_law_r36 (goodIn_app gin_wsL_law_r37 (goodIn_app gin_wsL_law_r38 (goodIn_app gin_wsL_law_r39 (goodIn_app gin_wsL_law_r40 (goodIn_app gin_wsL_law_r41 (goodIn_app gin_wsL_law_r42 (goodIn_app gin_wsL_law_r43 gin_wsL_law_r44))))))))))))))))))))))))))))))))))))))))))) gin_wsX90) gin_wsX100) gin_wsX30) gin_wsX60) gin_wsX50) gin_wsX80) gin_wsX00) gin_wsX70) gin_wsX40) gin_wsX10) gin_wsX20) (fun _ h => absurd h List.not_mem_nil))
theorem wsL_law_in : ∀ w ∈ wsL_law, w ∈ lw_tbl := fun w h => (wsL_law_gd w h).1
theorem inlX0 : ∀ w ∈ wsX00, w ∈ wsL_law := fun _ h => List.mem_append_left _ (List.mem_append_left _ (List.mem_append_left _ (List.mem_append_left _ (List.mem_append_left _ (List.mem_append_right _ h)))))
theorem inX0 : ∀ w ∈ wsX00, w ∈ lw_tbl := fun w h => wsL_law_in w (inlX0 w h)
theorem inlX1 : ∀ w ∈ wsX10, w ∈ wsL_law := fun _ h => List.mem_append_left _ (List.mem_append_left _ (List.mem_append_right _ h))
theorem inX1 : ∀ w ∈ wsX10, w ∈ lw_tbl := fun w h => wsL_law_in w (inlX1 w h)
theorem inlX2 : ∀ w ∈ wsX20, w ∈ wsL_law := fun _ h => List.mem_append_left _ (List.mem_append_right _ h)
theorem inX2 : ∀ w ∈ wsX20, w ∈ lw_tbl := fun w h => wsL_law_in w (inlX2 w h)
theorem inlX3 : ∀ w ∈ wsX30, w ∈ wsL_law := fun _ h => List.mem_append_left _ (List.mem_append_left _ (List.mem_append_left _ (List.mem_append_left _ (List.mem_append_left _ (List.mem_append_left _ (List.mem_append_left _ (List.mem_append_left _ (List.mem_append_left _ (List.mem_append_right _ h)))))))))
theorem inX3 : ∀ w ∈ wsX30, w ∈ lw_tbl := fun w h => wsL_law_in w (inlX3 w h)
theorem inlX4 : ∀ w ∈ wsX40, w ∈ wsL_law := fun _ h => List.mem_append_left _ (List.mem_append_left _ (List.mem_append_left _ (List.mem_append_right _ h)))
theorem inX4 : ∀ w ∈ wsX40, w ∈ lw_tbl := fun w h => wsL_law_in w (inlX4 w h)
theorem inlX5 : ∀ w ∈ wsX50, w ∈ wsL_law := fun _ h => List.mem_append_left _ (List.mem_append_left _ (List.mem_append_left _ (List.mem_append_left _ (List.mem_append_left _ (List.mem_append_left _ (List.mem_append_left _ (List.mem_append_right _ h)))))))
theorem inX5 : ∀ w ∈ wsX50, w ∈ lw_tbl := fun w h => wsL_law_in w (inlX5 w h)
theorem inlX6 : ∀ w ∈ wsX60, w ∈ wsL_law := fun _ h => List.mem_append_left _ (List.mem_append_left _ (List.mem_append_left _ (List.mem_append_left _ (List.mem_append_left _ (List.mem_append_left _ (List.mem_append_left _ (List.mem_append_left _ (List.mem_append_right _ h))))))))
theorem inX6 : ∀ w ∈ wsX60, w ∈ lw_tbl := fun w h => wsL_law_in w (inlX6 w h)
theorem inlX7 : ∀ w ∈ wsX70, w ∈ wsL_law := fun _ h => List.mem_append_left _ (List.mem_append_left _ (List.mem_append_left _ (List.mem_append_left _ (List.mem_append_right _ h))))
theorem inX7 : ∀ w ∈ wsX70, w ∈ lw_tbl := fun w h => wsL_law_in w (inlX7 w h)
theorem inlX8 : ∀ w ∈ wsX80, w ∈ wsL_law := fun _ h => List.mem_append_left _ (List.mem_append_left _ (List.mem_append_left _ (List.mem_append_left _ (List.mem_append_left _ (List.mem_append_left _ (List.mem_append_right _ h))))))
theorem inX8 : ∀ w ∈ wsX80, w ∈ lw_tbl := fun w h => wsL_law_in w (inlX8 w h)
theorem inlX9 : ∀ w ∈ wsX90, w ∈ wsL_law := fun _ h => List.mem_append_left _ (List.mem_append_left _ (List.mem_append_left _ (List.mem_append_left _ (List.mem_append_left _ (List.mem_append_left _ (List.mem_append_left _ (List.mem_append_left _ (List.mem_append_left _ (List.mem_append_left _ (List.mem_append_left _ (List.mem_append_right _ h)))))))))))
theorem inX9 : ∀ w ∈ wsX90, w ∈ lw_tbl := fun w h => wsL_law_in w (inlX9 w h)
theorem inlX10 : ∀ w ∈ wsX100, w ∈ wsL_law := fun _ h => List.mem_append_left _ (List.mem_append_left _ (List.mem_append_left _ (List.mem_append_left _ (List.mem_append_left _ (List.mem_append_left _ (List.mem_append_left _ (List.mem_append_left _ (List.mem_append_left _ (List.mem_append_left _ (List.mem_append_right _ h))))))))))
theorem inX10 : ∀ w ∈ wsX100, w ∈ lw_tbl := fun w h => wsL_law_in w (inlX10 w h)
theorem inJ9 : ∀ w ∈ wsJ90, w ∈ lw_tbl := by decide +kernel
theorem inJ0 : ∀ w ∈ wsJ00, w ∈ lw_tbl := by decide +kernel
theorem inJ1 : ∀ w ∈ wsJ10, w ∈ lw_tbl := by decide +kernel
theorem inJ2 : ∀ w ∈ wsJ20, w ∈ lw_tbl := by decide +kernel
theorem inJ3 : ∀ w ∈ wsJ30, w ∈ lw_tbl := by decide +kernel
set_option maxRecDepth 20000 in
theorem ggX0_init_X7_init : GoodIn wsX0_init wsX7_init := goodIn_r _ [22, 23, 2, 3, 24, 25, 46, 47, 48] (by decide +kernel) (by decide +kernel)
set_option maxRecDepth 20000 in
theorem gX0_init_X7_init_n19 : GoodIn wsX0_init (wsX7_init) := ggX0_init_X7_init
set_option maxRecDepth 20000 in
theorem ggX0_init_X4_init : GoodIn wsX0_init wsX4_init := goodIn_r _ [27, 28, 2, 3, 29, 30, 49, 50] (by decide +kernel) (by decide +kernel)
set_option maxRecDepth 20000 in
theorem gX0_init_X4_init_n40 : GoodIn wsX0_init (wsX4_init) := ggX0_init_X4_init
set_option maxRecDepth 20000 in
theorem ggX0_init_X1_init : GoodIn wsX0_init wsX1_init := goodIn_r _ [32, 33, 2, 3] (by decide +kernel) (by decide +kernel)
set_option maxRecDepth 20000 in
theorem gX0_init_X1_init_n41 : GoodIn wsX0_init (wsX1_init) := ggX0_init_X1_init
set_option maxRecDepth 20000 in
theorem ggX0_init_X5_init : GoodIn wsX0_init wsX5_init := goodIn_r _ [35, 36, 2, 3] (by decide +kernel) (by decide +kernel)
set_option maxRecDepth 20000 in
theorem gX0_init_X5_init_n42 : GoodIn wsX0_init (wsX5_init) := ggX0_init_X5_init
theorem dX0_init_0 : decode cX0_init 0 = .ok (.aload_n 0, 1) := by decide +kernel
theorem dX0_init_1 : decode cX0_init 1 = .ok (.invokespecial 3, 3) := by decide +kernel
theorem dX0_init_4 : decode cX0_init 4 = .ok (.aload_n 0, 1) := by decide +kernel
theorem dX0_init_5 : decode cX0_init 5 = .ok (.iconst 4, 1) := by decide +kernel
theorem dX0_init_6 : decode cX0_init 6 = .ok (.anewarray 9, 3) := by decide +kernel
theorem dX0_init_9 : decode cX0_init 9 = .ok (.putfield 11, 3) := by decide +kernel
theorem dX0_init_12 : decode cX0_init 12 = .ok (.aload_n 0, 1) := by decide +kernel
theorem dX0_init_13 : decode cX0_init 13 = .ok (.new 17, 3) := by decide +kernel
theorem dX0_init_16 : decode cX0_init 16 = .ok (.dup, 1) := by decide +kernel
theorem dX0_init_17 : decode cX0_init 17 = .ok (.invokespecial 19, 3) := by decide +kernel
theorem dX0_init_20 : decode cX0_init 20 = .ok (.putfield 20, 3) := by decide +kernel
theorem dX0_init_23 : decode cX0_init 23 = .ok (.aload_n 0, 1) := by decide +kernel
theorem dX0_init_24 : decode cX0_init 24 = .ok (.bipush 6, 2) := by decide +kernel
theorem dX0_init_26 : decode cX0_init 26 = .ok (.anewarray 24, 3) := by decide +kernel
theorem dX0_init_29 : decode cX0_init 29 = .ok (.putfield 26, 3) := by decide +kernel
theorem dX0_init_32 : decode cX0_init 32 = .ok (.aload_n 0, 1) := by decide +kernel
theorem dX0_init_33 : decode cX0_init 33 = .ok (.bipush 6, 2) := by decide +kernel
theorem dX0_init_35 : decode cX0_init 35 = .ok (.anewarray 30, 3) := by decide +kernel
theorem dX0_init_38 : decode cX0_init 38 = .ok (.putfield 32, 3) := by decide +kernel
theorem dX0_init_41 : decode cX0_init 41 = .ok (.aload_n 0, 1) := by decide +kernel
theorem dX0_init_42 : decode cX0_init 42 = .ok (.iconst 5, 1) := by decide +kernel
theorem dX0_init_43 : decode cX0_init 43 = .ok (.putfield 36, 3) := by decide +kernel
theorem dX0_init_46 : decode cX0_init 46 = .ok (.iconst 0, 1) := by decide +kernel
theorem dX0_init_47 : decode cX0_init 47 = .ok (.istore_n 1, 1) := by decide +kernel
theorem dX0_init_48 : decode cX0_init 48 = .ok (.iload_n 1, 1) := by decide +kernel
theorem dX0_init_49 : decode cX0_init 49 = .ok (.iconst 4, 1) := by decide +kernel
theorem dX0_init_50 : decode cX0_init 50 = .ok (.if_icmp .ge 22, 3) := by decide +kernel
theorem dX0_init_53 : decode cX0_init 53 = .ok (.aload_n 0, 1) := by decide +kernel
theorem dX0_init_54 : decode cX0_init 54 = .ok (.getfield 11, 3) := by decide +kernel
theorem dX0_init_57 : decode cX0_init 57 = .ok (.iload_n 1, 1) := by decide +kernel
theorem dX0_init_58 : decode cX0_init 58 = .ok (.new 9, 3) := by decide +kernel
theorem dX0_init_61 : decode cX0_init 61 = .ok (.dup, 1) := by decide +kernel
theorem dX0_init_62 : decode cX0_init 62 = .ok (.invokespecial 40, 3) := by decide +kernel
theorem dX0_init_65 : decode cX0_init 65 = .ok (.aastore, 1) := by decide +kernel
theorem dX0_init_66 : decode cX0_init 66 = .ok (.iinc 1 1, 3) := by decide +kernel
theorem dX0_init_69 : decode cX0_init 69 = .ok (.goto (-21), 3) := by decide +kernel
theorem dX0_init_72 : decode cX0_init 72 = .ok (.iconst 0, 1) := by decide +kernel
theorem dX0_init_73 : decode cX0_init 73 = .ok (.istore_n 1, 1) := by decide +kernel
theorem dX0_init_74 : decode cX0_init 74 = .ok (.iload_n 1, 1) := by decide +kernel
theorem dX0_init_75 : decode cX0_init 75 = .ok (.bipush 6, 2) := by decide +kernel
theorem dX0_init_77 : decode cX0_init 77 = .ok (.if_icmp .ge 22, 3) := by decide +kernel
theorem dX0_init_80 : decode cX0_init 80 = .ok (.aload_n 0, 1) := by decide +kernel
theorem dX0_init_81 : decode cX0_init 81 = .ok (.getfield 26, 3) := by decide +kernel
theorem dX0_init_84 : decode cX0_init 84 = .ok (.iload_n 1, 1) := by decide +kernel
theorem dX0_init_85 : decode cX0_init 85 = .ok (.new 24, 3) := by decide +kernel
theorem dX0_init_88 : decode cX0_init 88 = .ok (.dup, 1) := by decide +kernel
theorem dX0_init_89 : decode cX0_init 89 = .ok (.invokespecial 41, 3) := by decide +kernel
theorem dX0_init_92 : decode cX0_init 92 = .ok (.aastore, 1) := by decide +kernel
theorem dX0_init_93 : decode cX0_init 93 = .ok (.iinc 1 1, 3) := by decide +kernel
theorem dX0_init_96 : decode cX0_init 96 = .ok (.goto (-22), 3) := by decide +kernel
theorem dX0_init_99 : decode cX0_init 99 = .ok (.iconst 0, 1) := by decide +kernel
theorem dX0_init_100 : decode cX0_init 100 = .ok (.istore_n 1, 1) := by decide +kernel
theorem dX0_init_101 : decode cX0_init 101 = .ok (.iload_n 1, 1) := by decide +kernel
theorem dX0_init_102 : decode cX0_init 102 = .ok (.bipush 6, 2) := by decide +kernel
theorem dX0_init_104 : decode cX0_init 104 = .ok (.if_icmp .ge 22, 3) := by decide +kernel
theorem dX0_init_107 : decode cX0_init 107 = .ok (.aload_n 0, 1) := by decide +kernel
theorem dX0_init_108 : decode cX0_init 108 = .ok (.getfield 32, 3) := by decide +kernel
theorem dX0_init_111 : decode cX0_init 111 = .ok (.iload_n 1, 1) := by decide +kernel
theorem dX0_init_112 : decode cX0_init 112 = .ok (.new 30, 3) := by decide +kernel
theorem dX0_init_115 : decode cX0_init 115 = .ok (.dup, 1) := by decide +kernel
theorem dX0_init_116 : decode cX0_init 116 = .ok (.invokespecial 42, 3) := by decide +kernel
theorem dX0_init_119 : decode cX0_init 119 = .ok (.aastore, 1) := by decide +kernel
theorem dX0_init_120 : decode cX0_init 120 = .ok (.iinc 1 1, 3) := by decide +kernel
theorem dX0_init_123 : decode cX0_init 123 = .ok (.goto (-22), 3) := by decide +kernel
theorem dX0_init_126 : decode cX0_init 126 = .ok (.return_, 1) := by decide +kernel
set_option maxRecDepth 20000 in
theorem ggX0_copyFrom_X4_copyFrom : GoodIn wsX0_copyFrom wsX4_copyFrom := goodIn_r _ [14, 15, 16, 57, 58] (by decide +kernel) (by decide +kernel)
set_option maxRecDepth 20000 in
theorem gX0_copyFrom_X4_copyFrom : GoodIn wsX0_copyFrom (wsV RX0 43 RX4 yX4_copyFrom wsX4_copyFrom) := goodIn_app (goodIn_of _ (by decide +kernel)) ggX0_copyFrom_X4_copyFrom
set_option maxRecDepth 20000 in
theorem ggX0_copyFrom_X1_copyFrom : GoodIn wsX0_copyFrom wsX1_copyFrom := goodIn_r _ [21, 22, 23, 24, 25, 26, 27, 59, 60, 61, 62, 63, 64] (by decide +kernel) (by decide +kernel)
set_option maxRecDepth 20000 in
theorem gX0_copyFrom_X1_copyFrom : GoodIn wsX0_copyFrom (wsV RX0 47 RX1 yX1_copyFrom wsX1_copyFrom) := goodIn_app (goodIn_of _ (by decide +kernel)) ggX0_copyFrom_X1_copyFrom
set_option maxRecDepth 20000 in
theorem ggX0_copyFrom_X5_copyFrom : GoodIn wsX0_copyFrom wsX5_copyFrom := goodIn_r _ [32, 33, 34, 35, 36, 37, 38, 39, 65, 66, 67, 68, 69, 70, 71] (by decide +kernel) (by decide +kernel)
set_option maxRecDepth 20000 in
theorem gX0_copyFrom_X5_copyFrom : GoodIn wsX0_copyFrom (wsV RX0 50 RX5 yX5_copyFrom wsX5_copyFrom) := goodIn_app (goodIn_of _ (by decide +kernel)) ggX0_copyFrom_X5_copyFrom
set_option maxRecDepth 20000 in
theorem ggX0_copyFrom_X7_copyFrom : GoodIn wsX0_copyFrom wsX7_copyFrom := goodIn_r _ [44, 45, 46, 47, 72, 73, 74] (by decide +kernel) (by decide +kernel)
set_option maxRecDepth 20000 in
theorem gX0_copyFrom_X7_copyFrom : GoodIn wsX0_copyFrom (wsV RX0 53 RX7 yX7_copyFrom wsX7_copyFrom) := goodIn_app (goodIn_of _ (by decide +kernel)) ggX0_copyFrom_X7_copyFrom
theorem dX0_copyFrom_0 : decode cX0_copyFrom 0 = .ok (.iconst 0, 1) := by decide +kernel
theorem dX0_copyFrom_1 : decode cX0_copyFrom 1 = .ok (.istore_n 2, 1) := by decide +kernel
theorem dX0_copyFrom_2 : decode cX0_copyFrom 2 = .ok (.iload_n 2, 1) := by decide +kernel
theorem dX0_copyFrom_3 : decode cX0_copyFrom 3 = .ok (.iconst 4, 1) := by decide +kernel
theorem dX0_copyFrom_4 : decode cX0_copyFrom 4 = .ok (.if_icmp .ge 24, 3) := by decide +kernel
theorem dX0_copyFrom_7 : decode cX0_copyFrom 7 = .ok (.aload_n 0, 1) := by decide +kernel
theorem dX0_copyFrom_8 : decode cX0_copyFrom 8 = .ok (.getfield 11, 3) := by decide +kernel
theorem dX0_copyFrom_11 : decode cX0_copyFrom 11 = .ok (.iload_n 2, 1) := by decide +kernel
theorem dX0_copyFrom_12 : decode cX0_copyFrom 12 = .ok (.aaload, 1) := by decide +kernel
theorem dX0_copyFrom_13 : decode cX0_copyFrom 13 = .ok (.aload_n 1, 1) := by decide +kernel
theorem dX0_copyFrom_14 : decode cX0_copyFrom 14 = .ok (.getfield 11, 3) := by decide +kernel
theorem dX0_copyFrom_17 : decode cX0_copyFrom 17 = .ok (.iload_n 2, 1) := by decide +kernel
theorem dX0_copyFrom_18 : decode cX0_copyFrom 18 = .ok (.aaload, 1) := by decide +kernel
theorem dX0_copyFrom_19 : decode cX0_copyFrom 19 = .ok (.invokevirtual 43, 3) := by decide +kernel
theorem dX0_copyFrom_22 : decode cX0_copyFrom 22 = .ok (.iinc 2 1, 3) := by decide +kernel
theorem dX0_copyFrom_25 : decode cX0_copyFrom 25 = .ok (.goto (-23), 3) := by decide +kernel
theorem dX0_copyFrom_28 : decode cX0_copyFrom 28 = .ok (.iconst 0, 1) := by decide +kernel
theorem dX0_copyFrom_29 : decode cX0_copyFrom 29 = .ok (.istore_n 2, 1) := by decide +kernel
theorem dX0_copyFrom_30 : decode cX0_copyFrom 30 = .ok (.iload_n 2, 1) := by decide +kernel
theorem dX0_copyFrom_31 : decode cX0_copyFrom 31 = .ok (.bipush 6, 2) := by decide +kernel
theorem dX0_copyFrom_33 : decode cX0_copyFrom 33 = .ok (.if_icmp .ge 24, 3) := by decide +kernel
theorem dX0_copyFrom_36 : decode cX0_copyFrom 36 = .ok (.aload_n 0, 1) := by decide +kernel
theorem dX0_copyFrom_37 : decode cX0_copyFrom 37 = .ok (.getfield 26, 3) := by decide +kernel
theorem dX0_copyFrom_40 : decode cX0_copyFrom 40 = .ok (.iload_n 2, 1) := by decide +kernel
theorem dX0_copyFrom_41 : decode cX0_copyFrom 41 = .ok (.aaload, 1) := by decide +kernel
theorem dX0_copyFrom_42 : decode cX0_copyFrom 42 = .ok (.aload_n 1, 1) := by decide +kernel
theorem dX0_copyFrom_43 : decode cX0_copyFrom 43 = .ok (.getfield 26, 3) := by decide +kernel
theorem dX0_copyFrom_46 : decode cX0_copyFrom 46 = .ok (.iload_n 2, 1) := by decide +kernel
theorem dX0_copyFrom_47 : decode cX0_copyFrom 47 = .ok (.aaload, 1) := by decide +kernel
theorem dX0_copyFrom_48 : decode cX0_copyFrom 48 = .ok (.invokevirtual 47, 3) := by decide +kernel
theorem dX0_copyFrom_51 : decode cX0_copyFrom 51 = .ok (.iinc 2 1, 3) := by decide +kernel
theorem dX0_copyFrom_54 : decode cX0_copyFrom 54 = .ok (.goto (-24), 3) := by decide +kernel
theorem dX0_copyFrom_57 : decode cX0_copyFrom 57 = .ok (.iconst 0, 1) := by decide +kernel
theorem dX0_copyFrom_58 : decode cX0_copyFrom 58 = .ok (.istore_n 2, 1) := by decide +kernel
theorem dX0_copyFrom_59 : decode cX0_copyFrom 59 = .ok (.iload_n 2, 1) := by decide +kernel
theorem dX0_copyFrom_60 : decode cX0_copyFrom 60 = .ok (.bipush 6, 2) := by decide +kernel
theorem dX0_copyFrom_62 : decode cX0_copyFrom 62 = .ok (.if_icmp .ge 24, 3) := by decide +kernel
theorem dX0_copyFrom_65 : decode cX0_copyFrom 65 = .ok (.aload_n 0, 1) := by decide +kernel
theorem dX0_copyFrom_66 : decode cX0_copyFrom 66 = .ok (.getfield 32, 3) := by decide +kernel
theorem dX0_copyFrom_69 : decode cX0_copyFrom 69 = .ok (.iload_n 2, 1) := by decide +kernel
theorem dX0_copyFrom_70 : decode cX0_copyFrom 70 = .ok (.aaload, 1) := by decide +kernel
theorem dX0_copyFrom_71 : decode cX0_copyFrom 71 = .ok (.aload_n 1, 1) := by decide +kernel
theorem dX0_copyFrom_72 : decode cX0_copyFrom 72 = .ok (.getfield 32, 3) := by decide +kernel
theorem dX0_copyFrom_75 : decode cX0_copyFrom 75 = .ok (.iload_n 2, 1) := by decide +kernel
theorem dX0_copyFrom_76 : decode cX0_copyFrom 76 = .ok (.aaload, 1) := by decide +kernel
theorem dX0_copyFrom_77 : decode cX0_copyFrom 77 = .ok (.invokevirtual 50, 3) := by decide +kernel
theorem dX0_copyFrom_80 : decode cX0_copyFrom 80 = .ok (.iinc 2 1, 3) := by decide +kernel
theorem dX0_copyFrom_83 : decode cX0_copyFrom 83 = .ok (.goto (-24), 3) := by decide +kernel
theorem dX0_copyFrom_86 : decode cX0_copyFrom 86 = .ok (.aload_n 0, 1) := by decide +kernel
theorem dX0_copyFrom_87 : decode cX0_copyFrom 87 = .ok (.getfield 20, 3) := by decide +kernel
theorem dX0_copyFrom_90 : decode cX0_copyFrom 90 = .ok (.aload_n 1, 1) := by decide +kernel
theorem dX0_copyFrom_91 : decode cX0_copyFrom 91 = .ok (.getfield 20, 3) := by decide +kernel
theorem dX0_copyFrom_94 : decode cX0_copyFrom 94 = .ok (.invokevirtual 53, 3) := by decide +kernel
theorem dX0_copyFrom_97 : decode cX0_copyFrom 97 = .ok (.aload_n 0, 1) := by decide +kernel
theorem dX0_copyFrom_98 : decode cX0_copyFrom 98 = .ok (.aload_n 1, 1) := by decide +kernel
theorem dX0_copyFrom_99 : decode cX0_copyFrom 99 = .ok (.getfield 56, 3) := by decide +kernel
theorem dX0_copyFrom_102 : decode cX0_copyFrom 102 = .ok (.putfield 56, 3) := by decide +kernel
theorem dX0_copyFrom_105 : decode cX0_copyFrom 105 = .ok (.aload_n 0, 1) := by decide +kernel
theorem dX0_copyFrom_106 : decode cX0_copyFrom 106 = .ok (.aload_n 1, 1) := by decide +kernel
theorem dX0_copyFrom_107 : decode cX0_copyFrom 107 = .ok (.getfield 59, 3) := by decide +kernel
theorem dX0_copyFrom_110 : decode cX0_copyFrom 110 = .ok (.putfield 59, 3) := by decide +kernel
theorem dX0_copyFrom_113 : decode cX0_copyFrom 113 = .ok (.aload_n 0, 1) := by decide +kernel
theorem dX0_copyFrom_114 : decode cX0_copyFrom 114 = .ok (.aload_n 1, 1) := by decide +kernel
theorem dX0_copyFrom_115 : decode cX0_copyFrom 115 = .ok (.getfield 62, 3) := by decide +kernel
theorem dX0_copyFrom_118 : decode cX0_copyFrom 118 = .ok (.putfield 62, 3) := by decide +kernel
theorem dX0_copyFrom_121 : decode cX0_copyFrom 121 = .ok (.aload_n 0, 1) := by decide +kernel
theorem dX0_copyFrom_122 : decode cX0_copyFrom 122 = .ok (.aload_n 1, 1) := by decide +kernel
theorem dX0_copyFrom_123 : decode cX0_copyFrom 123 = .ok (.getfield 36, 3) := by decide +kernel
theorem dX0_copyFrom_126 : decode cX0_copyFrom 126 = .ok (.putfield 36, 3) := by decide +kernel
theorem dX0_copyFrom_129 : decode cX0_copyFrom 129 = .ok (.aload_n 0, 1) := by decide +kernel
theorem dX0_copyFrom_130 : decode cX0_copyFrom 130 = .ok (.aload_n 1, 1) := by decide +kernel
theorem dX0_copyFrom_131 : decode cX0_copyFrom 131 = .ok (.getfield 65, 3) := by decide +kernel
theorem dX0_copyFrom_134 : decode cX0_copyFrom 134 = .ok (.putfield 65, 3) := by decide +kernel
theorem dX0_copyFrom_137 : decode cX0_copyFrom 137 = .ok (.return_, 1) := by decide +kernel
set_option maxRecDepth 20000 in
theorem ggX0_kindAt_X9_within : GoodIn wsX0_kindAt wsX9_within := goodIn_r _ [4] (by decide +kernel) (by decide +kernel)
set_option maxRecDepth 20000 in
theorem gX0_kindAt_X9_within_n68 : GoodIn wsX0_kindAt (wsX9_within) := ggX0_kindAt_X9_within
theorem dX0_kindAt_0 : decode cX0_kindAt 0 = .ok (.iload_n 1, 1) := by decide +kernel
theorem dX0_kindAt_1 : decode cX0_kindAt 1 = .ok (.iconst 0, 1) := by decide +kernel
theorem dX0_kindAt_2 : decode cX0_kindAt 2 = .ok (.iconst 3, 1) := by decide +kernel
theorem dX0_kindAt_3 : decode cX0_kindAt 3 = .ok (.invokestatic 68, 3) := by decide +kernel
theorem dX0_kindAt_6 : decode cX0_kindAt 6 = .ok (.ifCond .eq 12, 3) := by decide +kernel
theorem dX0_kindAt_9 : decode cX0_kindAt 9 = .ok (.aload_n 0, 1) := by decide +kernel
theorem dX0_kindAt_10 : decode cX0_kindAt 10 = .ok (.getfield 11, 3) := by decide +kernel
theorem dX0_kindAt_13 : decode cX0_kindAt 13 = .ok (.iload_n 1, 1) := by decide +kernel
theorem dX0_kindAt_14 : decode cX0_kindAt 14 = .ok (.aaload, 1) := by decide +kernel
theorem dX0_kindAt_15 : decode cX0_kindAt 15 = .ok (.goto 4, 3) := by decide +kernel
theorem dX0_kindAt_18 : decode cX0_kindAt 18 = .ok (.aconst_null, 1) := by decide +kernel
theorem dX0_kindAt_19 : decode cX0_kindAt 19 = .ok (.areturn, 1) := by decide +kernel
set_option maxRecDepth 20000 in
theorem ggX0_customerAt_X9_within : GoodIn wsX0_customerAt wsX9_within := goodIn_r _ [5] (by decide +kernel) (by decide +kernel)
set_option maxRecDepth 20000 in
theorem gX0_customerAt_X9_within_n68 : GoodIn wsX0_customerAt (wsX9_within) := ggX0_customerAt_X9_within
theorem dX0_customerAt_0 : decode cX0_customerAt 0 = .ok (.iload_n 1, 1) := by decide +kernel
theorem dX0_customerAt_1 : decode cX0_customerAt 1 = .ok (.aload_n 0, 1) := by decide +kernel
theorem dX0_customerAt_2 : decode cX0_customerAt 2 = .ok (.getfield 56, 3) := by decide +kernel
theorem dX0_customerAt_5 : decode cX0_customerAt 5 = .ok (.if_icmp .ge 16, 3) := by decide +kernel
theorem dX0_customerAt_8 : decode cX0_customerAt 8 = .ok (.iload_n 1, 1) := by decide +kernel
theorem dX0_customerAt_9 : decode cX0_customerAt 9 = .ok (.iconst 0, 1) := by decide +kernel
theorem dX0_customerAt_10 : decode cX0_customerAt 10 = .ok (.iconst 5, 1) := by decide +kernel
theorem dX0_customerAt_11 : decode cX0_customerAt 11 = .ok (.invokestatic 68, 3) := by decide +kernel
theorem dX0_customerAt_14 : decode cX0_customerAt 14 = .ok (.ifCond .eq 7, 3) := by decide +kernel
theorem dX0_customerAt_17 : decode cX0_customerAt 17 = .ok (.iconst 1, 1) := by decide +kernel
theorem dX0_customerAt_18 : decode cX0_customerAt 18 = .ok (.goto 4, 3) := by decide +kernel
theorem dX0_customerAt_21 : decode cX0_customerAt 21 = .ok (.iconst 0, 1) := by decide +kernel
theorem dX0_customerAt_22 : decode cX0_customerAt 22 = .ok (.istore_n 2, 1) := by decide +kernel
theorem dX0_customerAt_23 : decode cX0_customerAt 23 = .ok (.iload_n 2, 1) := by decide +kernel
theorem dX0_customerAt_24 : decode cX0_customerAt 24 = .ok (.ifCond .eq 12, 3) := by decide +kernel
theorem dX0_customerAt_27 : decode cX0_customerAt 27 = .ok (.aload_n 0, 1) := by decide +kernel
theorem dX0_customerAt_28 : decode cX0_customerAt 28 = .ok (.getfield 26, 3) := by decide +kernel
theorem dX0_customerAt_31 : decode cX0_customerAt 31 = .ok (.iload_n 1, 1) := by decide +kernel
theorem dX0_customerAt_32 : decode cX0_customerAt 32 = .ok (.aaload, 1) := by decide +kernel
theorem dX0_customerAt_33 : decode cX0_customerAt 33 = .ok (.goto 4, 3) := by decide +kernel
theorem dX0_customerAt_36 : decode cX0_customerAt 36 = .ok (.aconst_null, 1) := by decide +kernel
theorem dX0_customerAt_37 : decode cX0_customerAt 37 = .ok (.areturn, 1) := by decide +kernel
set_option maxRecDepth 20000 in
theorem ggX0_prizeAt_X9_within : GoodIn wsX0_prizeAt wsX9_within := goodIn_r _ [5] (by decide +kernel) (by decide +kernel)
set_option maxRecDepth 20000 in
theorem gX0_prizeAt_X9_within_n68 : GoodIn wsX0_prizeAt (wsX9_within) := ggX0_prizeAt_X9_within
theorem dX0_prizeAt_0 : decode cX0_prizeAt 0 = .ok (.iload_n 1, 1) := by decide +kernel
theorem dX0_prizeAt_1 : decode cX0_prizeAt 1 = .ok (.aload_n 0, 1) := by decide +kernel
theorem dX0_prizeAt_2 : decode cX0_prizeAt 2 = .ok (.getfield 59, 3) := by decide +kernel
theorem dX0_prizeAt_5 : decode cX0_prizeAt 5 = .ok (.if_icmp .ge 16, 3) := by decide +kernel
theorem dX0_prizeAt_8 : decode cX0_prizeAt 8 = .ok (.iload_n 1, 1) := by decide +kernel
theorem dX0_prizeAt_9 : decode cX0_prizeAt 9 = .ok (.iconst 0, 1) := by decide +kernel
theorem dX0_prizeAt_10 : decode cX0_prizeAt 10 = .ok (.iconst 5, 1) := by decide +kernel
theorem dX0_prizeAt_11 : decode cX0_prizeAt 11 = .ok (.invokestatic 68, 3) := by decide +kernel
theorem dX0_prizeAt_14 : decode cX0_prizeAt 14 = .ok (.ifCond .eq 7, 3) := by decide +kernel
theorem dX0_prizeAt_17 : decode cX0_prizeAt 17 = .ok (.iconst 1, 1) := by decide +kernel
theorem dX0_prizeAt_18 : decode cX0_prizeAt 18 = .ok (.goto 4, 3) := by decide +kernel
theorem dX0_prizeAt_21 : decode cX0_prizeAt 21 = .ok (.iconst 0, 1) := by decide +kernel
theorem dX0_prizeAt_22 : decode cX0_prizeAt 22 = .ok (.istore_n 2, 1) := by decide +kernel
theorem dX0_prizeAt_23 : decode cX0_prizeAt 23 = .ok (.iload_n 2, 1) := by decide +kernel
theorem dX0_prizeAt_24 : decode cX0_prizeAt 24 = .ok (.ifCond .eq 12, 3) := by decide +kernel
theorem dX0_prizeAt_27 : decode cX0_prizeAt 27 = .ok (.aload_n 0, 1) := by decide +kernel
theorem dX0_prizeAt_28 : decode cX0_prizeAt 28 = .ok (.getfield 32, 3) := by decide +kernel
theorem dX0_prizeAt_31 : decode cX0_prizeAt 31 = .ok (.iload_n 1, 1) := by decide +kernel
theorem dX0_prizeAt_32 : decode cX0_prizeAt 32 = .ok (.aaload, 1) := by decide +kernel
theorem dX0_prizeAt_33 : decode cX0_prizeAt 33 = .ok (.goto 4, 3) := by decide +kernel
theorem dX0_prizeAt_36 : decode cX0_prizeAt 36 = .ok (.aconst_null, 1) := by decide +kernel
theorem dX0_prizeAt_37 : decode cX0_prizeAt 37 = .ok (.areturn, 1) := by decide +kernel
set_option maxRecDepth 20000 in
theorem ggX0_changeKind_X0_kindAt : GoodIn wsX0_changeKind wsX0_kindAt := goodIn_r _ [8, 9, 10, 11, 12, 15, 16, 17, 18, 19, 20, 21, 22, 23] (by decide +kernel) (by decide +kernel)
set_option maxRecDepth 20000 in
theorem gX0_changeKind_X0_kindAt : GoodIn wsX0_changeKind (wsV RX0 72 RX0 yX0_kindAt wsX0_kindAt) := goodIn_app (goodIn_of _ (by decide +kernel)) ggX0_changeKind_X0_kindAt
set_option maxRecDepth 20000 in
theorem ggX0_changeKind_X9_within : GoodIn wsX0_changeKind wsX9_within := goodIn_r _ [12] (by decide +kernel) (by decide +kernel)
set_option maxRecDepth 20000 in
theorem gX0_changeKind_X9_within_n68 : GoodIn wsX0_changeKind (wsX9_within) := ggX0_changeKind_X9_within
theorem dX0_changeKind_0 : decode cX0_changeKind 0 = .ok (.aload_n 0, 1) := by decide +kernel
theorem dX0_changeKind_1 : decode cX0_changeKind 1 = .ok (.iload_n 1, 1) := by decide +kernel
theorem dX0_changeKind_2 : decode cX0_changeKind 2 = .ok (.invokevirtual 72, 3) := by decide +kernel
theorem dX0_changeKind_5 : decode cX0_changeKind 5 = .ok (.astore 4, 2) := by decide +kernel
theorem dX0_changeKind_7 : decode cX0_changeKind 7 = .ok (.aload 4, 2) := by decide +kernel
theorem dX0_changeKind_9 : decode cX0_changeKind 9 = .ok (.ifnull 25, 3) := by decide +kernel
theorem dX0_changeKind_12 : decode cX0_changeKind 12 = .ok (.iload_n 2, 1) := by decide +kernel
theorem dX0_changeKind_13 : decode cX0_changeKind 13 = .ok (.bipush 100, 2) := by decide +kernel
theorem dX0_changeKind_15 : decode cX0_changeKind 15 = .ok (.sipush 5000, 3) := by decide +kernel
theorem dX0_changeKind_18 : decode cX0_changeKind 18 = .ok (.invokestatic 68, 3) := by decide +kernel
theorem dX0_changeKind_21 : decode cX0_changeKind 21 = .ok (.ifCond .eq 13, 3) := by decide +kernel
theorem dX0_changeKind_24 : decode cX0_changeKind 24 = .ok (.iload_n 3, 1) := by decide +kernel
theorem dX0_changeKind_25 : decode cX0_changeKind 25 = .ok (.iconst 0, 1) := by decide +kernel
theorem dX0_changeKind_26 : decode cX0_changeKind 26 = .ok (.bipush 50, 2) := by decide +kernel
theorem dX0_changeKind_28 : decode cX0_changeKind 28 = .ok (.invokestatic 68, 3) := by decide +kernel
theorem dX0_changeKind_31 : decode cX0_changeKind 31 = .ok (.ifCond .ne 6, 3) := by decide +kernel
theorem dX0_changeKind_34 : decode cX0_changeKind 34 = .ok (.ldc 76, 2) := by decide +kernel
theorem dX0_changeKind_36 : decode cX0_changeKind 36 = .ok (.ireturn, 1) := by decide +kernel
theorem dX0_changeKind_37 : decode cX0_changeKind 37 = .ok (.aload 4, 2) := by decide +kernel
theorem dX0_changeKind_39 : decode cX0_changeKind 39 = .ok (.getfield 77, 3) := by decide +kernel
theorem dX0_changeKind_42 : decode cX0_changeKind 42 = .ok (.istore 5, 2) := by decide +kernel
theorem dX0_changeKind_44 : decode cX0_changeKind 44 = .ok (.aload 4, 2) := by decide +kernel
theorem dX0_changeKind_46 : decode cX0_changeKind 46 = .ok (.iload_n 2, 1) := by decide +kernel
theorem dX0_changeKind_47 : decode cX0_changeKind 47 = .ok (.putfield 77, 3) := by decide +kernel
theorem dX0_changeKind_50 : decode cX0_changeKind 50 = .ok (.aload 4, 2) := by decide +kernel
theorem dX0_changeKind_52 : decode cX0_changeKind 52 = .ok (.iload_n 3, 1) := by decide +kernel
theorem dX0_changeKind_53 : decode cX0_changeKind 53 = .ok (.putfield 80, 3) := by decide +kernel
theorem dX0_changeKind_56 : decode cX0_changeKind 56 = .ok (.iload 5, 2) := by decide +kernel
theorem dX0_changeKind_58 : decode cX0_changeKind 58 = .ok (.ireturn, 1) := by decide +kernel
set_option maxRecDepth 20000 in
theorem ggX0_changeScale_X9_within : GoodIn wsX0_changeScale wsX9_within := goodIn_r _ [15] (by decide +kernel) (by decide +kernel)
set_option maxRecDepth 20000 in
theorem gX0_changeScale_X9_within_n68 : GoodIn wsX0_changeScale (wsX9_within) := ggX0_changeScale_X9_within
theorem dX0_changeScale_0 : decode cX0_changeScale 0 = .ok (.iload_n 1, 1) := by decide +kernel
theorem dX0_changeScale_1 : decode cX0_changeScale 1 = .ok (.iconst 1, 1) := by decide +kernel
theorem dX0_changeScale_2 : decode cX0_changeScale 2 = .ok (.sipush 1000, 3) := by decide +kernel
theorem dX0_changeScale_5 : decode cX0_changeScale 5 = .ok (.invokestatic 68, 3) := by decide +kernel
theorem dX0_changeScale_8 : decode cX0_changeScale 8 = .ok (.ifCond .eq 14, 3) := by decide +kernel
theorem dX0_changeScale_11 : decode cX0_changeScale 11 = .ok (.iload_n 2, 1) := by decide +kernel
theorem dX0_changeScale_12 : decode cX0_changeScale 12 = .ok (.iconst 0, 1) := by decide +kernel
theorem dX0_changeScale_13 : decode cX0_changeScale 13 = .ok (.sipush 2000, 3) := by decide +kernel
theorem dX0_changeScale_16 : decode cX0_changeScale 16 = .ok (.invokestatic 68, 3) := by decide +kernel
theorem dX0_changeScale_19 : decode cX0_changeScale 19 = .ok (.ifCond .ne 6, 3) := by decide +kernel
theorem dX0_changeScale_22 : decode cX0_changeScale 22 = .ok (.ldc 76, 2) := by decide +kernel
theorem dX0_changeScale_24 : decode cX0_changeScale 24 = .ok (.ireturn, 1) := by decide +kernel
theorem dX0_changeScale_25 : decode cX0_changeScale 25 = .ok (.aload_n 0, 1) := by decide +kernel
theorem dX0_changeScale_26 : decode cX0_changeScale 26 = .ok (.getfield 20, 3) := by decide +kernel
theorem dX0_changeScale_29 : decode cX0_changeScale 29 = .ok (.iload_n 1, 1) := by decide +kernel
theorem dX0_changeScale_30 : decode cX0_changeScale 30 = .ok (.putfield 83, 3) := by decide +kernel
theorem dX0_changeScale_33 : decode cX0_changeScale 33 = .ok (.aload_n 0, 1) := by decide +kernel
theorem dX0_changeScale_34 : decode cX0_changeScale 34 = .ok (.getfield 20, 3) := by decide +kernel
theorem dX0_changeScale_37 : decode cX0_changeScale 37 = .ok (.iload_n 2, 1) := by decide +kernel
theorem dX0_changeScale_38 : decode cX0_changeScale 38 = .ok (.putfield 86, 3) := by decide +kernel
theorem dX0_changeScale_41 : decode cX0_changeScale 41 = .ok (.aload_n 0, 1) := by decide +kernel
theorem dX0_changeScale_42 : decode cX0_changeScale 42 = .ok (.getfield 20, 3) := by decide +kernel
theorem dX0_changeScale_45 : decode cX0_changeScale 45 = .ok (.iload_n 2, 1) := by decide +kernel
theorem dX0_changeScale_46 : decode cX0_changeScale 46 = .ok (.ineg, 1) := by decide +kernel
theorem dX0_changeScale_47 : decode cX0_changeScale 47 = .ok (.iload_n 2, 1) := by decide +kernel
theorem dX0_changeScale_48 : decode cX0_changeScale 48 = .ok (.aload_n 0, 1) := by decide +kernel
theorem dX0_changeScale_49 : decode cX0_changeScale 49 = .ok (.getfield 20, 3) := by decide +kernel
theorem dX0_changeScale_52 : decode cX0_changeScale 52 = .ok (.getfield 89, 3) := by decide +kernel
theorem dX0_changeScale_55 : decode cX0_changeScale 55 = .ok (.invokestatic 92, 3) := by decide +kernel
theorem dX0_changeScale_58 : decode cX0_changeScale 58 = .ok (.invokestatic 98, 3) := by decide +kernel
theorem dX0_changeScale_61 : decode cX0_changeScale 61 = .ok (.putfield 89, 3) := by decide +kernel
theorem dX0_changeScale_64 : decode cX0_changeScale 64 = .ok (.aload_n 0, 1) := by decide +kernel
theorem dX0_changeScale_65 : decode cX0_changeScale 65 = .ok (.getfield 20, 3) := by decide +kernel
theorem dX0_changeScale_68 : decode cX0_changeScale 68 = .ok (.getfield 89, 3) := by decide +kernel
theorem dX0_changeScale_71 : decode cX0_changeScale 71 = .ok (.ireturn, 1) := by decide +kernel
set_option maxRecDepth 20000 in
theorem ggX0_changeBias_X9_within : GoodIn wsX0_changeBias wsX9_within := goodIn_r _ [7] (by decide +kernel) (by decide +kernel)
set_option maxRecDepth 20000 in
theorem gX0_changeBias_X9_within_n68 : GoodIn wsX0_changeBias (wsX9_within) := ggX0_changeBias_X9_within
theorem dX0_changeBias_0 : decode cX0_changeBias 0 = .ok (.iload_n 1, 1) := by decide +kernel
theorem dX0_changeBias_1 : decode cX0_changeBias 1 = .ok (.aload_n 0, 1) := by decide +kernel
theorem dX0_changeBias_2 : decode cX0_changeBias 2 = .ok (.getfield 20, 3) := by decide +kernel
theorem dX0_changeBias_5 : decode cX0_changeBias 5 = .ok (.getfield 86, 3) := by decide +kernel
theorem dX0_changeBias_8 : decode cX0_changeBias 8 = .ok (.ineg, 1) := by decide +kernel
theorem dX0_changeBias_9 : decode cX0_changeBias 9 = .ok (.aload_n 0, 1) := by decide +kernel
theorem dX0_changeBias_10 : decode cX0_changeBias 10 = .ok (.getfield 20, 3) := by decide +kernel
theorem dX0_changeBias_13 : decode cX0_changeBias 13 = .ok (.getfield 86, 3) := by decide +kernel
theorem dX0_changeBias_16 : decode cX0_changeBias 16 = .ok (.invokestatic 68, 3) := by decide +kernel
theorem dX0_changeBias_19 : decode cX0_changeBias 19 = .ok (.ifCond .ne 6, 3) := by decide +kernel
theorem dX0_changeBias_22 : decode cX0_changeBias 22 = .ok (.ldc 76, 2) := by decide +kernel
theorem dX0_changeBias_24 : decode cX0_changeBias 24 = .ok (.ireturn, 1) := by decide +kernel
theorem dX0_changeBias_25 : decode cX0_changeBias 25 = .ok (.aload_n 0, 1) := by decide +kernel
theorem dX0_changeBias_26 : decode cX0_changeBias 26 = .ok (.getfield 20, 3) := by decide +kernel
theorem dX0_changeBias_29 : decode cX0_changeBias 29 = .ok (.getfield 89, 3) := by decide +kernel
theorem dX0_changeBias_32 : decode cX0_changeBias 32 = .ok (.istore_n 2, 1) := by decide +kernel
theorem dX0_changeBias_33 : decode cX0_changeBias 33 = .ok (.aload_n 0, 1) := by decide +kernel
theorem dX0_changeBias_34 : decode cX0_changeBias 34 = .ok (.getfield 20, 3) := by decide +kernel
theorem dX0_changeBias_37 : decode cX0_changeBias 37 = .ok (.iload_n 1, 1) := by decide +kernel
theorem dX0_changeBias_38 : decode cX0_changeBias 38 = .ok (.putfield 89, 3) := by decide +kernel
theorem dX0_changeBias_41 : decode cX0_changeBias 41 = .ok (.iload_n 2, 1) := by decide +kernel
theorem dX0_changeBias_42 : decode cX0_changeBias 42 = .ok (.ireturn, 1) := by decide +kernel
set_option maxRecDepth 20000 in
theorem ggX0_changeRule_X9_within : GoodIn wsX0_changeRule wsX9_within := goodIn_r _ [5] (by decide +kernel) (by decide +kernel)
set_option maxRecDepth 20000 in
theorem gX0_changeRule_X9_within_n68 : GoodIn wsX0_changeRule (wsX9_within) := ggX0_changeRule_X9_within
theorem dX0_changeRule_0 : decode cX0_changeRule 0 = .ok (.iload_n 1, 1) := by decide +kernel
theorem dX0_changeRule_1 : decode cX0_changeRule 1 = .ok (.iconst 0, 1) := by decide +kernel
theorem dX0_changeRule_2 : decode cX0_changeRule 2 = .ok (.iconst 3, 1) := by decide +kernel
theorem dX0_changeRule_3 : decode cX0_changeRule 3 = .ok (.invokestatic 68, 3) := by decide +kernel
theorem dX0_changeRule_6 : decode cX0_changeRule 6 = .ok (.ifCond .ne 6, 3) := by decide +kernel
theorem dX0_changeRule_9 : decode cX0_changeRule 9 = .ok (.ldc 76, 2) := by decide +kernel
theorem dX0_changeRule_11 : decode cX0_changeRule 11 = .ok (.ireturn, 1) := by decide +kernel
theorem dX0_changeRule_12 : decode cX0_changeRule 12 = .ok (.aload_n 0, 1) := by decide +kernel
theorem dX0_changeRule_13 : decode cX0_changeRule 13 = .ok (.getfield 62, 3) := by decide +kernel
theorem dX0_changeRule_16 : decode cX0_changeRule 16 = .ok (.istore_n 2, 1) := by decide +kernel
theorem dX0_changeRule_17 : decode cX0_changeRule 17 = .ok (.aload_n 0, 1) := by decide +kernel
theorem dX0_changeRule_18 : decode cX0_changeRule 18 = .ok (.iload_n 1, 1) := by decide +kernel
theorem dX0_changeRule_19 : decode cX0_changeRule 19 = .ok (.putfield 62, 3) := by decide +kernel
theorem dX0_changeRule_22 : decode cX0_changeRule 22 = .ok (.iload_n 2, 1) := by decide +kernel
theorem dX0_changeRule_23 : decode cX0_changeRule 23 = .ok (.ireturn, 1) := by decide +kernel
set_option maxRecDepth 20000 in
theorem ggX0_changeFee_X9_within : GoodIn wsX0_changeFee wsX9_within := goodIn_r _ [5] (by decide +kernel) (by decide +kernel)
set_option maxRecDepth 20000 in
theorem gX0_changeFee_X9_within_n68 : GoodIn wsX0_changeFee (wsX9_within) := ggX0_changeFee_X9_within
theorem dX0_changeFee_0 : decode cX0_changeFee 0 = .ok (.iload_n 1, 1) := by decide +kernel
theorem dX0_changeFee_1 : decode cX0_changeFee 1 = .ok (.iconst 0, 1) := by decide +kernel
theorem dX0_changeFee_2 : decode cX0_changeFee 2 = .ok (.bipush 100, 2) := by decide +kernel
theorem dX0_changeFee_4 : decode cX0_changeFee 4 = .ok (.invokestatic 68, 3) := by decide +kernel
theorem dX0_changeFee_7 : decode cX0_changeFee 7 = .ok (.ifCond .ne 6, 3) := by decide +kernel
theorem dX0_changeFee_10 : decode cX0_changeFee 10 = .ok (.ldc 76, 2) := by decide +kernel
theorem dX0_changeFee_12 : decode cX0_changeFee 12 = .ok (.ireturn, 1) := by decide +kernel
theorem dX0_changeFee_13 : decode cX0_changeFee 13 = .ok (.aload_n 0, 1) := by decide +kernel
theorem dX0_changeFee_14 : decode cX0_changeFee 14 = .ok (.getfield 36, 3) := by decide +kernel
theorem dX0_changeFee_17 : decode cX0_changeFee 17 = .ok (.istore_n 2, 1) := by decide +kernel
theorem dX0_changeFee_18 : decode cX0_changeFee 18 = .ok (.aload_n 0, 1) := by decide +kernel
theorem dX0_changeFee_19 : decode cX0_changeFee 19 = .ok (.iload_n 1, 1) := by decide +kernel
theorem dX0_changeFee_20 : decode cX0_changeFee 20 = .ok (.putfield 36, 3) := by decide +kernel
theorem dX0_changeFee_23 : decode cX0_changeFee 23 = .ok (.iload_n 2, 1) := by decide +kernel
theorem dX0_changeFee_24 : decode cX0_changeFee 24 = .ok (.ireturn, 1) := by decide +kernel
set_option maxRecDepth 20000 in
theorem ggX0_addCustomer_X9_within : GoodIn wsX0_addCustomer wsX9_within := goodIn_r _ [7] (by decide +kernel) (by decide +kernel)
set_option maxRecDepth 20000 in
theorem gX0_addCustomer_X9_within_n68 : GoodIn wsX0_addCustomer (wsX9_within) := ggX0_addCustomer_X9_within
set_option maxRecDepth 20000 in
theorem ggX0_addCustomer_X1_begin : GoodIn wsX0_addCustomer wsX1_begin := goodIn_r _ [12, 13, 14, 24, 25, 26, 27, 28, 29] (by decide +kernel) (by decide +kernel)
set_option maxRecDepth 20000 in
theorem gX0_addCustomer_X1_begin : GoodIn wsX0_addCustomer (wsV RX0 102 RX1 yX1_begin wsX1_begin) := goodIn_app (goodIn_of _ (by decide +kernel)) ggX0_addCustomer_X1_begin
theorem dX0_addCustomer_0 : decode cX0_addCustomer 0 = .ok (.iload_n 1, 1) := by decide +kernel
theorem dX0_addCustomer_1 : decode cX0_addCustomer 1 = .ok (.iconst 0, 1) := by decide +kernel
theorem dX0_addCustomer_2 : decode cX0_addCustomer 2 = .ok (.sipush 9999, 3) := by decide +kernel
theorem dX0_addCustomer_5 : decode cX0_addCustomer 5 = .ok (.invokestatic 68, 3) := by decide +kernel
theorem dX0_addCustomer_8 : decode cX0_addCustomer 8 = .ok (.ifCond .ne 6, 3) := by decide +kernel
theorem dX0_addCustomer_11 : decode cX0_addCustomer 11 = .ok (.ldc 76, 2) := by decide +kernel
theorem dX0_addCustomer_13 : decode cX0_addCustomer 13 = .ok (.ireturn, 1) := by decide +kernel
theorem dX0_addCustomer_14 : decode cX0_addCustomer 14 = .ok (.aload_n 0, 1) := by decide +kernel
theorem dX0_addCustomer_15 : decode cX0_addCustomer 15 = .ok (.getfield 56, 3) := by decide +kernel
theorem dX0_addCustomer_18 : decode cX0_addCustomer 18 = .ok (.iconst 0, 1) := by decide +kernel
theorem dX0_addCustomer_19 : decode cX0_addCustomer 19 = .ok (.iconst 5, 1) := by decide +kernel
theorem dX0_addCustomer_20 : decode cX0_addCustomer 20 = .ok (.invokestatic 68, 3) := by decide +kernel
theorem dX0_addCustomer_23 : decode cX0_addCustomer 23 = .ok (.ifCond .ne 6, 3) := by decide +kernel
theorem dX0_addCustomer_26 : decode cX0_addCustomer 26 = .ok (.ldc 101, 2) := by decide +kernel
theorem dX0_addCustomer_28 : decode cX0_addCustomer 28 = .ok (.ireturn, 1) := by decide +kernel
theorem dX0_addCustomer_29 : decode cX0_addCustomer 29 = .ok (.aload_n 0, 1) := by decide +kernel
theorem dX0_addCustomer_30 : decode cX0_addCustomer 30 = .ok (.getfield 26, 3) := by decide +kernel
theorem dX0_addCustomer_33 : decode cX0_addCustomer 33 = .ok (.aload_n 0, 1) := by decide +kernel
theorem dX0_addCustomer_34 : decode cX0_addCustomer 34 = .ok (.getfield 56, 3) := by decide +kernel
theorem dX0_addCustomer_37 : decode cX0_addCustomer 37 = .ok (.aaload, 1) := by decide +kernel
theorem dX0_addCustomer_38 : decode cX0_addCustomer 38 = .ok (.iload_n 1, 1) := by decide +kernel
theorem dX0_addCustomer_39 : decode cX0_addCustomer 39 = .ok (.invokevirtual 102, 3) := by decide +kernel
theorem dX0_addCustomer_42 : decode cX0_addCustomer 42 = .ok (.aload_n 0, 1) := by decide +kernel
theorem dX0_addCustomer_43 : decode cX0_addCustomer 43 = .ok (.dup, 1) := by decide +kernel
theorem dX0_addCustomer_44 : decode cX0_addCustomer 44 = .ok (.getfield 56, 3) := by decide +kernel
theorem dX0_addCustomer_47 : decode cX0_addCustomer 47 = .ok (.iconst 1, 1) := by decide +kernel
theorem dX0_addCustomer_48 : decode cX0_addCustomer 48 = .ok (.iadd, 1) := by decide +kernel
theorem dX0_addCustomer_49 : decode cX0_addCustomer 49 = .ok (.putfield 56, 3) := by decide +kernel
theorem dX0_addCustomer_52 : decode cX0_addCustomer 52 = .ok (.aload_n 0, 1) := by decide +kernel
theorem dX0_addCustomer_53 : decode cX0_addCustomer 53 = .ok (.getfield 56, 3) := by decide +kernel
theorem dX0_addCustomer_56 : decode cX0_addCustomer 56 = .ok (.iconst 1, 1) := by decide +kernel
theorem dX0_addCustomer_57 : decode cX0_addCustomer 57 = .ok (.isub, 1) := by decide +kernel
theorem dX0_addCustomer_58 : decode cX0_addCustomer 58 = .ok (.ireturn, 1) := by decide +kernel
set_option maxRecDepth 20000 in
theorem ggX0_dropCustomer_X0_customerAt : GoodIn wsX0_dropCustomer wsX0_customerAt := goodIn_r _ [9, 4, 3, 10, 11, 12, 26, 27, 28, 29, 30, 31, 32, 33, 34] (by decide +kernel) (by decide +kernel)
set_option maxRecDepth 20000 in
theorem gX0_dropCustomer_X0_customerAt : GoodIn wsX0_dropCustomer (wsV RX0 106 RX0 yX0_customerAt wsX0_customerAt) := goodIn_app (goodIn_of _ (by decide +kernel)) ggX0_dropCustomer_X0_customerAt
set_option maxRecDepth 20000 in
theorem ggX0_dropCustomer_X1_begin : GoodIn wsX0_dropCustomer wsX1_begin := goodIn_r _ [17, 18, 19, 20, 21, 22, 23, 24, 25] (by decide +kernel) (by decide +kernel)
set_option maxRecDepth 20000 in
theorem gX0_dropCustomer_X1_begin : GoodIn wsX0_dropCustomer (wsV RX0 102 RX1 yX1_begin wsX1_begin) := goodIn_app (goodIn_of _ (by decide +kernel)) ggX0_dropCustomer_X1_begin
theorem dX0_dropCustomer_0 : decode cX0_dropCustomer 0 = .ok (.aload_n 0, 1) := by decide +kernel
theorem dX0_dropCustomer_1 : decode cX0_dropCustomer 1 = .ok (.iload_n 1, 1) := by decide +kernel
theorem dX0_dropCustomer_2 : decode cX0_dropCustomer 2 = .ok (.invokevirtual 106, 3) := by decide +kernel
theorem dX0_dropCustomer_5 : decode cX0_dropCustomer 5 = .ok (.astore_n 2, 1) := by decide +kernel
theorem dX0_dropCustomer_6 : decode cX0_dropCustomer 6 = .ok (.aload_n 2, 1) := by decide +kernel
theorem dX0_dropCustomer_7 : decode cX0_dropCustomer 7 = .ok (.ifnonnull 6, 3) := by decide +kernel
theorem dX0_dropCustomer_10 : decode cX0_dropCustomer 10 = .ok (.ldc 76, 2) := by decide +kernel
theorem dX0_dropCustomer_12 : decode cX0_dropCustomer 12 = .ok (.ireturn, 1) := by decide +kernel
theorem dX0_dropCustomer_13 : decode cX0_dropCustomer 13 = .ok (.aload_n 2, 1) := by decide +kernel
theorem dX0_dropCustomer_14 : decode cX0_dropCustomer 14 = .ok (.getfield 110, 3) := by decide +kernel
theorem dX0_dropCustomer_17 : decode cX0_dropCustomer 17 = .ok (.istore_n 3, 1) := by decide +kernel
theorem dX0_dropCustomer_18 : decode cX0_dropCustomer 18 = .ok (.iload_n 1, 1) := by decide +kernel
theorem dX0_dropCustomer_19 : decode cX0_dropCustomer 19 = .ok (.istore 4, 2) := by decide +kernel
theorem dX0_dropCustomer_21 : decode cX0_dropCustomer 21 = .ok (.iload 4, 2) := by decide +kernel
theorem dX0_dropCustomer_23 : decode cX0_dropCustomer 23 = .ok (.iconst 5, 1) := by decide +kernel
theorem dX0_dropCustomer_24 : decode cX0_dropCustomer 24 = .ok (.if_icmp .ge 25, 3) := by decide +kernel
theorem dX0_dropCustomer_27 : decode cX0_dropCustomer 27 = .ok (.aload_n 0, 1) := by decide +kernel
theorem dX0_dropCustomer_28 : decode cX0_dropCustomer 28 = .ok (.getfield 26, 3) := by decide +kernel
theorem dX0_dropCustomer_31 : decode cX0_dropCustomer 31 = .ok (.iload 4, 2) := by decide +kernel
theorem dX0_dropCustomer_33 : decode cX0_dropCustomer 33 = .ok (.aload_n 0, 1) := by decide +kernel
theorem dX0_dropCustomer_34 : decode cX0_dropCustomer 34 = .ok (.getfield 26, 3) := by decide +kernel
theorem dX0_dropCustomer_37 : decode cX0_dropCustomer 37 = .ok (.iload 4, 2) := by decide +kernel
theorem dX0_dropCustomer_39 : decode cX0_dropCustomer 39 = .ok (.iconst 1, 1) := by decide +kernel
theorem dX0_dropCustomer_40 : decode cX0_dropCustomer 40 = .ok (.iadd, 1) := by decide +kernel
theorem dX0_dropCustomer_41 : decode cX0_dropCustomer 41 = .ok (.aaload, 1) := by decide +kernel
theorem dX0_dropCustomer_42 : decode cX0_dropCustomer 42 = .ok (.aastore, 1) := by decide +kernel
theorem dX0_dropCustomer_43 : decode cX0_dropCustomer 43 = .ok (.iinc 4 1, 3) := by decide +kernel
theorem dX0_dropCustomer_46 : decode cX0_dropCustomer 46 = .ok (.goto (-25), 3) := by decide +kernel
theorem dX0_dropCustomer_49 : decode cX0_dropCustomer 49 = .ok (.aload_n 0, 1) := by decide +kernel
theorem dX0_dropCustomer_50 : decode cX0_dropCustomer 50 = .ok (.getfield 26, 3) := by decide +kernel
theorem dX0_dropCustomer_53 : decode cX0_dropCustomer 53 = .ok (.iconst 5, 1) := by decide +kernel
theorem dX0_dropCustomer_54 : decode cX0_dropCustomer 54 = .ok (.aload_n 2, 1) := by decide +kernel
theorem dX0_dropCustomer_55 : decode cX0_dropCustomer 55 = .ok (.aastore, 1) := by decide +kernel
theorem dX0_dropCustomer_56 : decode cX0_dropCustomer 56 = .ok (.aload_n 2, 1) := by decide +kernel
theorem dX0_dropCustomer_57 : decode cX0_dropCustomer 57 = .ok (.iconst 0, 1) := by decide +kernel
theorem dX0_dropCustomer_58 : decode cX0_dropCustomer 58 = .ok (.invokevirtual 102, 3) := by decide +kernel
theorem dX0_dropCustomer_61 : decode cX0_dropCustomer 61 = .ok (.aload_n 0, 1) := by decide +kernel
theorem dX0_dropCustomer_62 : decode cX0_dropCustomer 62 = .ok (.dup, 1) := by decide +kernel
theorem dX0_dropCustomer_63 : decode cX0_dropCustomer 63 = .ok (.getfield 56, 3) := by decide +kernel
theorem dX0_dropCustomer_66 : decode cX0_dropCustomer 66 = .ok (.iconst 1, 1) := by decide +kernel
theorem dX0_dropCustomer_67 : decode cX0_dropCustomer 67 = .ok (.isub, 1) := by decide +kernel
theorem dX0_dropCustomer_68 : decode cX0_dropCustomer 68 = .ok (.putfield 56, 3) := by decide +kernel
theorem dX0_dropCustomer_71 : decode cX0_dropCustomer 71 = .ok (.iload_n 3, 1) := by decide +kernel
theorem dX0_dropCustomer_72 : decode cX0_dropCustomer 72 = .ok (.ireturn, 1) := by decide +kernel
set_option maxRecDepth 20000 in
theorem ggX0_weighBundle_X0_customerAt : GoodIn wsX0_weighBundle wsX0_customerAt := goodIn_r _ [13, 14, 15, 16, 17, 18, 103, 104, 105, 106, 107, 108, 109, 110, 111] (by decide +kernel) (by decide +kernel)
set_option maxRecDepth 20000 in
theorem gX0_weighBundle_X0_customerAt : GoodIn wsX0_weighBundle (wsV RX0 106 RX0 yX0_customerAt wsX0_customerAt) := goodIn_app (goodIn_of _ (by decide +kernel)) ggX0_weighBundle_X0_customerAt
set_option maxRecDepth 20000 in
theorem ggX0_weighBundle_X0_kindAt : GoodIn wsX0_weighBundle wsX0_kindAt := goodIn_r _ [22, 23, 16, 17, 18, 103, 104, 105, 106, 107, 108, 109, 110, 111] (by decide +kernel) (by decide +kernel)
set_option maxRecDepth 20000 in
theorem gX0_weighBundle_X0_kindAt : GoodIn wsX0_weighBundle (wsV RX0 72 RX0 yX0_kindAt wsX0_kindAt) := goodIn_app (goodIn_of _ (by decide +kernel)) ggX0_weighBundle_X0_kindAt
set_option maxRecDepth 20000 in
theorem ggX0_weighBundle_X9_within : GoodIn wsX0_weighBundle wsX9_within := goodIn_r _ [18] (by decide +kernel) (by decide +kernel)
set_option maxRecDepth 20000 in
theorem gX0_weighBundle_X9_within_n68 : GoodIn wsX0_weighBundle (wsX9_within) := ggX0_weighBundle_X9_within
set_option maxRecDepth 20000 in
theorem ggX0_weighBundle_X9_readingAt : GoodIn wsX0_weighBundle wsX9_readingAt := goodIn_r _ [25, 26, 27, 28, 29, 30, 31, 17, 32, 33, 34, 35, 36] (by decide +kernel) (by decide +kernel)
set_option maxRecDepth 20000 in
theorem gX0_weighBundle_X9_readingAt_n113 : GoodIn wsX0_weighBundle (wsX9_readingAt) := ggX0_weighBundle_X9_readingAt
set_option maxRecDepth 20000 in
theorem ggX0_weighBundle_X7_guessFrom : GoodIn wsX0_weighBundle wsX7_guessFrom := goodIn_r _ [41, 42, 43, 44, 45, 28, 46, 47, 27, 29, 48, 49, 50, 40, 51, 52, 53, 54, 55, 56, 57, 58, 59, 60, 61, 62, 63, 64, 31, 17, 32, 33, 34, 35, 36, 65, 66, 67, 68, 69, 70, 71, 72, 73, 74, 75, 76, 77, 78, 79, 80, 81, 82, 83, 84, 101, 102, 112, 113, 114] (by decide +kernel) (by decide +kernel)
set_option maxRecDepth 20000 in
theorem gX0_weighBundle_X7_guessFrom : GoodIn wsX0_weighBundle (wsV RX0 116 RX7 yX7_guessFrom wsX7_guessFrom) := goodIn_app (goodIn_of _ (by decide +kernel)) ggX0_weighBundle_X7_guessFrom
set_option maxRecDepth 20000 in
theorem ggX0_weighBundle_X1_gain : GoodIn wsX0_weighBundle wsX1_gain := goodIn_r _ [89, 90, 91, 27, 28, 29, 115, 116, 117, 118, 119, 120] (by decide +kernel) (by decide +kernel)
set_option maxRecDepth 20000 in
theorem gX0_weighBundle_X1_gain : GoodIn wsX0_weighBundle (wsV RX0 120 RX1 yX1_gain wsX1_gain) := goodIn_app (goodIn_of _ (by decide +kernel)) ggX0_weighBundle_X1_gain
set_option maxRecDepth 20000 in
theorem ggX0_weighBundle_X1_keep : GoodIn wsX0_weighBundle wsX1_keep := goodIn_r _ [95, 96, 97, 98, 99, 100, 115, 116, 117, 118, 119, 120] (by decide +kernel) (by decide +kernel)
set_option maxRecDepth 20000 in
theorem gX0_weighBundle_X1_keep : GoodIn wsX0_weighBundle (wsV RX0 123 RX1 yX1_keep wsX1_keep) := goodIn_app (goodIn_of _ (by decide +kernel)) ggX0_weighBundle_X1_keep
theorem dX0_weighBundle_0 : decode cX0_weighBundle 0 = .ok (.aload_n 0, 1) := by decide +kernel
theorem dX0_weighBundle_1 : decode cX0_weighBundle 1 = .ok (.iload_n 1, 1) := by decide +kernel
theorem dX0_weighBundle_2 : decode cX0_weighBundle 2 = .ok (.invokevirtual 106, 3) := by decide +kernel
theorem dX0_weighBundle_5 : decode cX0_weighBundle 5 = .ok (.astore 5, 2) := by decide +kernel
theorem dX0_weighBundle_7 : decode cX0_weighBundle 7 = .ok (.aload_n 0, 1) := by decide +kernel
theorem dX0_weighBundle_8 : decode cX0_weighBundle 8 = .ok (.iload_n 2, 1) := by decide +kernel
theorem dX0_weighBundle_9 : decode cX0_weighBundle 9 = .ok (.invokevirtual 72, 3) := by decide +kernel
theorem dX0_weighBundle_12 : decode cX0_weighBundle 12 = .ok (.astore 6, 2) := by decide +kernel
theorem dX0_weighBundle_14 : decode cX0_weighBundle 14 = .ok (.aload 5, 2) := by decide +kernel
theorem dX0_weighBundle_16 : decode cX0_weighBundle 16 = .ok (.ifnull 19, 3) := by decide +kernel
theorem dX0_weighBundle_19 : decode cX0_weighBundle 19 = .ok (.aload 6, 2) := by decide +kernel
theorem dX0_weighBundle_21 : decode cX0_weighBundle 21 = .ok (.ifnull 14, 3) := by decide +kernel
theorem dX0_weighBundle_24 : decode cX0_weighBundle 24 = .ok (.iload_n 3, 1) := by decide +kernel
theorem dX0_weighBundle_25 : decode cX0_weighBundle 25 = .ok (.iconst 1, 1) := by decide +kernel
theorem dX0_weighBundle_26 : decode cX0_weighBundle 26 = .ok (.sipush 500, 3) := by decide +kernel
theorem dX0_weighBundle_29 : decode cX0_weighBundle 29 = .ok (.invokestatic 68, 3) := by decide +kernel
theorem dX0_weighBundle_32 : decode cX0_weighBundle 32 = .ok (.ifCond .ne 6, 3) := by decide +kernel
theorem dX0_weighBundle_35 : decode cX0_weighBundle 35 = .ok (.ldc 76, 2) := by decide +kernel
theorem dX0_weighBundle_37 : decode cX0_weighBundle 37 = .ok (.ireturn, 1) := by decide +kernel
theorem dX0_weighBundle_38 : decode cX0_weighBundle 38 = .ok (.iload_n 3, 1) := by decide +kernel
theorem dX0_weighBundle_39 : decode cX0_weighBundle 39 = .ok (.aload 6, 2) := by decide +kernel
theorem dX0_weighBundle_41 : decode cX0_weighBundle 41 = .ok (.getfield 80, 3) := by decide +kernel
theorem dX0_weighBundle_44 : decode cX0_weighBundle 44 = .ok (.imul, 1) := by decide +kernel
theorem dX0_weighBundle_45 : decode cX0_weighBundle 45 = .ok (.istore 7, 2) := by decide +kernel
theorem dX0_weighBundle_47 : decode cX0_weighBundle 47 = .ok (.iload 4, 2) := by decide +kernel
theorem dX0_weighBundle_49 : decode cX0_weighBundle 49 = .ok (.iload 7, 2) := by decide +kernel
theorem dX0_weighBundle_51 : decode cX0_weighBundle 51 = .ok (.ineg, 1) := by decide +kernel
theorem dX0_weighBundle_52 : decode cX0_weighBundle 52 = .ok (.iload 7, 2) := by decide +kernel
theorem dX0_weighBundle_54 : decode cX0_weighBundle 54 = .ok (.invokestatic 68, 3) := by decide +kernel
theorem dX0_weighBundle_57 : decode cX0_weighBundle 57 = .ok (.ifCond .ne 6, 3) := by decide +kernel
theorem dX0_weighBundle_60 : decode cX0_weighBundle 60 = .ok (.ldc 76, 2) := by decide +kernel
theorem dX0_weighBundle_62 : decode cX0_weighBundle 62 = .ok (.ireturn, 1) := by decide +kernel
theorem dX0_weighBundle_63 : decode cX0_weighBundle 63 = .ok (.aload_n 0, 1) := by decide +kernel
theorem dX0_weighBundle_64 : decode cX0_weighBundle 64 = .ok (.getfield 20, 3) := by decide +kernel
theorem dX0_weighBundle_67 : decode cX0_weighBundle 67 = .ok (.getfield 83, 3) := by decide +kernel
theorem dX0_weighBundle_70 : decode cX0_weighBundle 70 = .ok (.iload_n 3, 1) := by decide +kernel
theorem dX0_weighBundle_71 : decode cX0_weighBundle 71 = .ok (.aload 6, 2) := by decide +kernel
theorem dX0_weighBundle_73 : decode cX0_weighBundle 73 = .ok (.getfield 77, 3) := by decide +kernel
theorem dX0_weighBundle_76 : decode cX0_weighBundle 76 = .ok (.imul, 1) := by decide +kernel
theorem dX0_weighBundle_77 : decode cX0_weighBundle 77 = .ok (.iload 4, 2) := by decide +kernel
theorem dX0_weighBundle_79 : decode cX0_weighBundle 79 = .ok (.iadd, 1) := by decide +kernel
theorem dX0_weighBundle_80 : decode cX0_weighBundle 80 = .ok (.aload_n 0, 1) := by decide +kernel
theorem dX0_weighBundle_81 : decode cX0_weighBundle 81 = .ok (.getfield 20, 3) := by decide +kernel
theorem dX0_weighBundle_84 : decode cX0_weighBundle 84 = .ok (.getfield 89, 3) := by decide +kernel
theorem dX0_weighBundle_87 : decode cX0_weighBundle 87 = .ok (.iadd, 1) := by decide +kernel
theorem dX0_weighBundle_88 : decode cX0_weighBundle 88 = .ok (.invokestatic 113, 3) := by decide +kernel
theorem dX0_weighBundle_91 : decode cX0_weighBundle 91 = .ok (.istore 8, 2) := by decide +kernel
theorem dX0_weighBundle_93 : decode cX0_weighBundle 93 = .ok (.aload_n 0, 1) := by decide +kernel
theorem dX0_weighBundle_94 : decode cX0_weighBundle 94 = .ok (.getfield 20, 3) := by decide +kernel
theorem dX0_weighBundle_97 : decode cX0_weighBundle 97 = .ok (.iload 8, 2) := by decide +kernel
theorem dX0_weighBundle_99 : decode cX0_weighBundle 99 = .ok (.aload 6, 2) := by decide +kernel
theorem dX0_weighBundle_101 : decode cX0_weighBundle 101 = .ok (.aload_n 0, 1) := by decide +kernel
theorem dX0_weighBundle_102 : decode cX0_weighBundle 102 = .ok (.getfield 62, 3) := by decide +kernel
theorem dX0_weighBundle_105 : decode cX0_weighBundle 105 = .ok (.invokevirtual 116, 3) := by decide +kernel
theorem dX0_weighBundle_108 : decode cX0_weighBundle 108 = .ok (.istore 9, 2) := by decide +kernel
theorem dX0_weighBundle_110 : decode cX0_weighBundle 110 = .ok (.aload 5, 2) := by decide +kernel
theorem dX0_weighBundle_112 : decode cX0_weighBundle 112 = .ok (.iload 9, 2) := by decide +kernel
theorem dX0_weighBundle_114 : decode cX0_weighBundle 114 = .ok (.invokevirtual 120, 3) := by decide +kernel
theorem dX0_weighBundle_117 : decode cX0_weighBundle 117 = .ok (.aload 5, 2) := by decide +kernel
theorem dX0_weighBundle_119 : decode cX0_weighBundle 119 = .ok (.iload_n 2, 1) := by decide +kernel
theorem dX0_weighBundle_120 : decode cX0_weighBundle 120 = .ok (.iload_n 3, 1) := by decide +kernel
theorem dX0_weighBundle_121 : decode cX0_weighBundle 121 = .ok (.iload 8, 2) := by decide +kernel
theorem dX0_weighBundle_123 : decode cX0_weighBundle 123 = .ok (.iload 9, 2) := by decide +kernel
theorem dX0_weighBundle_125 : decode cX0_weighBundle 125 = .ok (.invokevirtual 123, 3) := by decide +kernel
theorem dX0_weighBundle_128 : decode cX0_weighBundle 128 = .ok (.aload_n 0, 1) := by decide +kernel
theorem dX0_weighBundle_129 : decode cX0_weighBundle 129 = .ok (.dup, 1) := by decide +kernel
theorem dX0_weighBundle_130 : decode cX0_weighBundle 130 = .ok (.getfield 65, 3) := by decide +kernel
theorem dX0_weighBundle_133 : decode cX0_weighBundle 133 = .ok (.iload 9, 2) := by decide +kernel
theorem dX0_weighBundle_135 : decode cX0_weighBundle 135 = .ok (.iload_n 3, 1) := by decide +kernel
theorem dX0_weighBundle_136 : decode cX0_weighBundle 136 = .ok (.isub, 1) := by decide +kernel
theorem dX0_weighBundle_137 : decode cX0_weighBundle 137 = .ok (.iadd, 1) := by decide +kernel
theorem dX0_weighBundle_138 : decode cX0_weighBundle 138 = .ok (.putfield 65, 3) := by decide +kernel
theorem dX0_weighBundle_141 : decode cX0_weighBundle 141 = .ok (.iload 9, 2) := by decide +kernel
theorem dX0_weighBundle_143 : decode cX0_weighBundle 143 = .ok (.ireturn, 1) := by decide +kernel
set_option maxRecDepth 20000 in
theorem ggX0_settleClaim_X0_customerAt : GoodIn wsX0_settleClaim wsX0_customerAt := goodIn_r _ [14, 15, 16, 17, 18, 19, 96, 97, 98, 99, 100, 101, 102, 103, 104] (by decide +kernel) (by decide +kernel)
set_option maxRecDepth 20000 in
theorem gX0_settleClaim_X0_customerAt : GoodIn wsX0_settleClaim (wsV RX0 106 RX0 yX0_customerAt wsX0_customerAt) := goodIn_app (goodIn_of _ (by decide +kernel)) ggX0_settleClaim_X0_customerAt
set_option maxRecDepth 20000 in
theorem ggX0_settleClaim_X9_within : GoodIn wsX0_settleClaim wsX9_within := goodIn_r _ [19] (by decide +kernel) (by decide +kernel)
set_option maxRecDepth 20000 in
theorem gX0_settleClaim_X9_within_n68 : GoodIn wsX0_settleClaim (wsX9_within) := ggX0_settleClaim_X9_within
set_option maxRecDepth 20000 in
theorem ggX0_settleClaim_X0_kindAt : GoodIn wsX0_settleClaim wsX0_kindAt := goodIn_r _ [23, 24, 17, 18, 19, 96, 97, 98, 99, 100, 101, 102, 103, 104] (by decide +kernel) (by decide +kernel)
