theorem life_at {o q i : Int} (ho : isDesk o) (e : q = 4 * i + o + 4) (hi : 0 ≤ i ∧ i < 20) : isLife q := by
  subst e
  rw [show 4 * i + o + 4 = o + 4 + 4 * i by omega]
  exact ho.2.2.2.2.2 i hi
theorem msX0_init : Mi yX0_init cX0_init 2 0 := ⟨q60, q59, q37, by decide +kernel, by decide +kernel, by decide +kernel, rfl⟩
abbrev rmX0_copyFrom : Room := { frames := 2, cells := 0, slots := 0, locals := 47 }
theorem msX0_copyFrom : Ms yX0_copyFrom cX0_copyFrom 5 none 1 := ⟨q248, q246, q247, q37, by decide +kernel, by decide +kernel, by decide +kernel⟩
abbrev rmX0_today : Room := { frames := 0, cells := 0, slots := 0, locals := 0 }
theorem msX0_today : Ms yX0_today cX0_today 1 (some .int) 0 := ⟨q281, q279, q280, q37, by decide +kernel, by decide +kernel, by decide +kernel⟩
abbrev rmX0_hoursLeft : Room := { frames := 0, cells := 0, slots := 0, locals := 0 }
theorem msX0_hoursLeft : Ms yX0_hoursLeft cX0_hoursLeft 1 (some .int) 0 := ⟨q360, q358, q359, q37, by decide +kernel, by decide +kernel, by decide +kernel⟩
abbrev rmX0_persons : Room := { frames := 0, cells := 0, slots := 0, locals := 0 }
theorem msX0_persons : Ms yX0_persons cX0_persons 1 (some .int) 0 := ⟨q517, q515, q516, q37, by decide +kernel, by decide +kernel, by decide +kernel⟩
abbrev rmX0_corrections : Room := { frames := 0, cells := 0, slots := 0, locals := 0 }
theorem msX0_corrections : Ms yX0_corrections cX0_corrections 1 (some .int) 0 := ⟨q737, q735, q736, q37, by decide +kernel, by decide +kernel, by decide +kernel⟩
abbrev rmX0_roomForPersons : Room := { frames := 0, cells := 0, slots := 0, locals := 0 }
theorem msX0_roomForPersons : Ms yX0_roomForPersons cX0_roomForPersons 1 (some .int) 0 := ⟨q236, q234, q235, q37, by decide +kernel, by decide +kernel, by decide +kernel⟩
abbrev rmX0_lifeOf : Room := { frames := 0, cells := 0, slots := 0, locals := 0 }
theorem msX0_lifeOf : Ms yX0_lifeOf cX0_lifeOf 2 (some (.object "LivesAhead$Life")) 1 := ⟨q255, q253, q254, q37, by decide +kernel, by decide +kernel, by decide +kernel⟩
abbrev rmX0_join : Room := { frames := 2, cells := 0, slots := 0, locals := 42 }
theorem msX0_join : Ms yX0_join cX0_join 4 (some .int) 2 := ⟨q264, q262, q263, q37, by decide +kernel, by decide +kernel, by decide +kernel⟩
abbrev rmX0_joinLike : Room := { frames := 3, cells := 0, slots := 0, locals := 65 }
theorem msX0_joinLike : Ms yX0_joinLike cX0_joinLike 3 none 1 := ⟨q331, q329, q330, q37, by decide +kernel, by decide +kernel, by decide +kernel⟩
abbrev rmX0_spendHours : Room := { frames := 0, cells := 0, slots := 0, locals := 0 }
theorem msX0_spendHours : Ms yX0_spendHours cX0_spendHours 2 none 1 := ⟨q364, q362, q363, q37, by decide +kernel, by decide +kernel, by decide +kernel⟩
abbrev rmX0_setting : Room := { frames := 1, cells := 0, slots := 0, locals := 20 }
theorem msX0_setting : Ms yX0_setting cX0_setting 2 (some .int) 1 := ⟨q437, q435, q436, q37, by decide +kernel, by decide +kernel, by decide +kernel⟩
abbrev rmX0_changeSetting : Room := { frames := 1, cells := 0, slots := 0, locals := 20 }
theorem msX0_changeSetting : Ms yX0_changeSetting cX0_changeSetting 3 none 2 := ⟨q472, q470, q471, q37, by decide +kernel, by decide +kernel, by decide +kernel⟩
abbrev rmX0_trustOf : Room := { frames := 1, cells := 0, slots := 0, locals := 20 }
theorem msX0_trustOf : Ms yX0_trustOf cX0_trustOf 2 (some .int) 1 := ⟨q426, q424, q425, q37, by decide +kernel, by decide +kernel, by decide +kernel⟩
abbrev rmX0_changeTrust : Room := { frames := 1, cells := 0, slots := 0, locals := 20 }
theorem msX0_changeTrust : Ms yX0_changeTrust cX0_changeTrust 3 none 2 := ⟨q458, q456, q457, q37, by decide +kernel, by decide +kernel, by decide +kernel⟩
abbrev rmX0_countCorrection : Room := { frames := 0, cells := 0, slots := 0, locals := 0 }
theorem msX0_countCorrection : Ms yX0_countCorrection cX0_countCorrection 1 (some .int) 0 := ⟨q599, q597, q598, q37, by decide +kernel, by decide +kernel, by decide +kernel⟩
abbrev rmX0_personsIn : Room := { frames := 1, cells := 0, slots := 0, locals := 21 }
theorem msX0_personsIn : Ms yX0_personsIn cX0_personsIn 5 (some .int) 1 := ⟨q497, q495, q496, q37, by decide +kernel, by decide +kernel, by decide +kernel⟩
abbrev rmX0_facts : Room := { frames := 1, cells := 0, slots := 0, locals := 21 }
theorem msX0_facts : Ms yX0_facts cX0_facts 4 (some .int) 0 := ⟨q729, q727, q728, q37, by decide +kernel, by decide +kernel, by decide +kernel⟩
abbrev rmX0_worthOf : Room := { frames := 2, cells := 0, slots := 0, locals := 42 }
theorem msX0_worthOf : Ms yX0_worthOf cX0_worthOf 7 (some .float) 3 := ⟨q418, q416, q417, q37, by decide +kernel, by decide +kernel, by decide +kernel⟩
abbrev rmX0_worthOfLife : Room := { frames := 3, cells := 0, slots := 0, locals := 68 }
theorem msX0_worthOfLife : Ms yX0_worthOfLife cX0_worthOfLife 4 (some .float) 1 := ⟨q680, q678, q679, q37, by decide +kernel, by decide +kernel, by decide +kernel⟩
abbrev rmX0_bound : Room := { frames := 2, cells := 0, slots := 0, locals := 41 }
theorem msX0_bound : Ms yX0_bound cX0_bound 1 (some .float) 0 := ⟨q433, q431, q432, q37, by decide +kernel, by decide +kernel, by decide +kernel⟩
abbrev rmX0_isStale : Room := { frames := 3, cells := 0, slots := 0, locals := 68 }
theorem msX0_isStale : Ms yX0_isStale cX0_isStale 3 (some .boolean) 2 := ⟨q414, q412, q413, q37, by decide +kernel, by decide +kernel, by decide +kernel⟩
abbrev rmX0_staleFactsOf : Room := { frames := 3, cells := 0, slots := 0, locals := 68 }
theorem msX0_staleFactsOf : Ms yX0_staleFactsOf cX0_staleFactsOf 6 (some .int) 2 := ⟨q448, q446, q447, q37, by decide +kernel, by decide +kernel, by decide +kernel⟩
abbrev rmX0_staleFactsOn : Room := { frames := 4, cells := 0, slots := 0, locals := 93 }
theorem msX0_staleFactsOn : Ms yX0_staleFactsOn cX0_staleFactsOn 5 (some .int) 1 := ⟨q720, q718, q719, q37, by decide +kernel, by decide +kernel, by decide +kernel⟩
abbrev rmX0_factsFrom : Room := { frames := 2, cells := 0, slots := 0, locals := 42 }
theorem msX0_factsFrom : Ms yX0_factsFrom cX0_factsFrom 6 (some .int) 1 := ⟨q704, q702, q703, q37, by decide +kernel, by decide +kernel, by decide +kernel⟩
abbrev rmX0_staleFactsFrom : Room := { frames := 4, cells := 0, slots := 0, locals := 90 }
theorem msX0_staleFactsFrom : Ms yX0_staleFactsFrom cX0_staleFactsFrom 6 (some .int) 1 := ⟨q708, q706, q707, q37, by decide +kernel, by decide +kernel, by decide +kernel⟩
abbrev rmX0_linesFrom : Room := { frames := 2, cells := 0, slots := 0, locals := 42 }
theorem msX0_linesFrom : Ms yX0_linesFrom cX0_linesFrom 6 (some .int) 1 := ⟨q712, q710, q711, q37, by decide +kernel, by decide +kernel, by decide +kernel⟩
abbrev rmX0_urgencyOf : Room := { frames := 4, cells := 0, slots := 0, locals := 93 }
theorem msX0_urgencyOf : Ms yX0_urgencyOf cX0_urgencyOf 3 (some .int) 1 := ⟨q444, q442, q443, q37, by decide +kernel, by decide +kernel, by decide +kernel⟩
abbrev rmX0_rankUrgencies : Room := { frames := 5, cells := 0, slots := 0, locals := 115 }
theorem msX0_rankUrgencies : Ms yX0_rankUrgencies cX0_rankUrgencies 4 none 1 := ⟨q689, q687, q688, q37, by decide +kernel, by decide +kernel, by decide +kernel⟩
abbrev rmX0_firstToCheck : Room := { frames := 4, cells := 0, slots := 0, locals := 90 }
theorem msX0_firstToCheck : Ms yX0_firstToCheck cX0_firstToCheck 3 (some .int) 1 := ⟨q408, q406, q407, q37, by decide +kernel, by decide +kernel, by decide +kernel⟩
abbrev rmX0_mostUrgentToCheck : Room := { frames := 5, cells := 0, slots := 0, locals := 115 }
theorem msX0_mostUrgentToCheck : Ms yX0_mostUrgentToCheck cX0_mostUrgentToCheck 6 (some (.object "LivesAhead$Life")) 0 := ⟨q403, q401, q402, q37, by decide +kernel, by decide +kernel, by decide +kernel⟩
abbrev rmX0_checkToday : Room := { frames := 2, cells := 0, slots := 0, locals := 43 }
theorem msX0_checkToday : Ms yX0_checkToday cX0_checkToday 3 none 2 := ⟨q382, q380, q381, q37, by decide +kernel, by decide +kernel, by decide +kernel⟩
abbrev rmX0_couldPrint : Room := { frames := 4, cells := 0, slots := 0, locals := 93 }
theorem msX0_couldPrint : Ms yX0_couldPrint cX0_couldPrint 2 (some .boolean) 1 := ⟨q541, q539, q540, q37, by decide +kernel, by decide +kernel, by decide +kernel⟩
abbrev rmX0_markPrinted : Room := { frames := 1, cells := 0, slots := 0, locals := 21 }
theorem msX0_markPrinted : Ms yX0_markPrinted cX0_markPrinted 3 none 1 := ⟨q572, q570, q571, q37, by decide +kernel, by decide +kernel, by decide +kernel⟩
abbrev rmX0_takeBackOldDeaths : Room := { frames := 2, cells := 0, slots := 0, locals := 41 }
theorem msX0_takeBackOldDeaths : Ms yX0_takeBackOldDeaths cX0_takeBackOldDeaths 3 none 0 := ⟨q580, q578, q579, q37, by decide +kernel, by decide +kernel, by decide +kernel⟩
abbrev rmX0_beginNextDay : Room := { frames := 2, cells := 0, slots := 0, locals := 41 }
theorem msX0_beginNextDay : Ms yX0_beginNextDay cX0_beginNextDay 1 none 0 := ⟨q586, q584, q585, q37, by decide +kernel, by decide +kernel, by decide +kernel⟩
theorem msX1_init : Mi yX1_init cX1_init 2 0 := ⟨q127, q126, q39, by decide +kernel, by decide +kernel, by decide +kernel, rfl⟩
abbrev rmX1_size : Room := { frames := 0, cells := 0, slots := 0, locals := 0 }
theorem msX1_size : Ms yX1_size cX1_size 1 (some .int) 0 := ⟨q627, q625, q626, q39, by decide +kernel, by decide +kernel, by decide +kernel⟩
abbrev rmX1_remember : Room := { frames := 3, cells := 0, slots := 0, locals := 71 }
theorem msX1_remember : Ms yX1_remember cX1_remember 3 none 1 := ⟨q240, q238, q239, q39, by decide +kernel, by decide +kernel, by decide +kernel⟩
abbrev rmX1_takeLatest : Room := { frames := 3, cells := 0, slots := 0, locals := 71 }
theorem msX1_takeLatest : Ms yX1_takeLatest cX1_takeLatest 3 none 1 := ⟨q631, q629, q630, q39, by decide +kernel, by decide +kernel, by decide +kernel⟩
abbrev rmX1_stateAt : Room := { frames := 0, cells := 0, slots := 0, locals := 0 }
theorem msX1_stateAt : Ms yX1_stateAt cX1_stateAt 3 (some (.object "LivesAhead$Desk")) 1 := ⟨q244, q243, q0, q39, by decide +kernel, by decide +kernel, by decide +kernel⟩
theorem msX2_init : Mi yX2_init cX2_init 1 0 := ⟨q67, q66, q38, by decide +kernel, by decide +kernel, by decide +kernel, rfl⟩
abbrev rmX2_begin : Room := { frames := 1, cells := 0, slots := 0, locals := 20 }
theorem msX2_begin : Ms yX2_begin cX2_begin 3 none 2 := ⟨q269, q267, q268, q38, by decide +kernel, by decide +kernel, by decide +kernel⟩
abbrev rmX2_copyLife : Room := { frames := 1, cells := 0, slots := 0, locals := 26 }
theorem msX2_copyLife : Ms yX2_copyLife cX2_copyLife 2 none 1 := ⟨q259, q257, q258, q38, by decide +kernel, by decide +kernel, by decide +kernel⟩
abbrev rmX2_age : Room := { frames := 0, cells := 0, slots := 0, locals := 0 }
theorem msX2_age : Ms yX2_age cX2_age 1 (some .int) 0 := ⟨q335, q333, q334, q38, by decide +kernel, by decide +kernel, by decide +kernel⟩
abbrev rmX2_rank : Room := { frames := 0, cells := 0, slots := 0, locals := 0 }
theorem msX2_rank : Ms yX2_rank cX2_rank 1 (some .int) 0 := ⟨q339, q337, q338, q38, by decide +kernel, by decide +kernel, by decide +kernel⟩
abbrev rmX2_state : Room := { frames := 0, cells := 0, slots := 0, locals := 0 }
theorem msX2_state : Ms yX2_state cX2_state 1 (some .int) 0 := ⟨q650, q648, q649, q38, by decide +kernel, by decide +kernel, by decide +kernel⟩
abbrev rmX2_isIn : Room := { frames := 0, cells := 0, slots := 0, locals := 0 }
theorem msX2_isIn : Ms yX2_isIn cX2_isIn 2 (some .boolean) 1 := ⟨q352, q350, q351, q38, by decide +kernel, by decide +kernel, by decide +kernel⟩
abbrev rmX2_teller : Room := { frames := 0, cells := 0, slots := 0, locals := 0 }
theorem msX2_teller : Ms yX2_teller cX2_teller 1 (some .int) 0 := ⟨q480, q478, q479, q38, by decide +kernel, by decide +kernel, by decide +kernel⟩
abbrev rmX2_deathDay : Room := { frames := 0, cells := 0, slots := 0, locals := 0 }
theorem msX2_deathDay : Ms yX2_deathDay cX2_deathDay 1 (some .int) 0 := ⟨q523, q521, q522, q38, by decide +kernel, by decide +kernel, by decide +kernel⟩
abbrev rmX2_printDay : Room := { frames := 0, cells := 0, slots := 0, locals := 0 }
theorem msX2_printDay : Ms yX2_printDay cX2_printDay 1 (some .int) 0 := ⟨q659, q657, q658, q38, by decide +kernel, by decide +kernel, by decide +kernel⟩
abbrev rmX2_size : Room := { frames := 0, cells := 0, slots := 0, locals := 0 }
theorem msX2_size : Ms yX2_size cX2_size 1 (some .int) 0 := ⟨q356, q354, q355, q38, by decide +kernel, by decide +kernel, by decide +kernel⟩
abbrev rmX2_tellDead : Room := { frames := 0, cells := 0, slots := 0, locals := 0 }
theorem msX2_tellDead : Ms yX2_tellDead cX2_tellDead 3 none 2 := ⟨q488, q486, q487, q38, by decide +kernel, by decide +kernel, by decide +kernel⟩
abbrev rmX2_confirmDeath : Room := { frames := 0, cells := 0, slots := 0, locals := 0 }
theorem msX2_confirmDeath : Ms yX2_confirmDeath cX2_confirmDeath 2 none 1 := ⟨q484, q482, q483, q38, by decide +kernel, by decide +kernel, by decide +kernel⟩
abbrev rmX2_takeBackDeath : Room := { frames := 0, cells := 0, slots := 0, locals := 0 }
theorem msX2_takeBackDeath : Ms yX2_takeBackDeath cX2_takeBackDeath 1 none 0 := ⟨q273, q271, q272, q38, by decide +kernel, by decide +kernel, by decide +kernel⟩
abbrev rmX2_becomePrinted : Room := { frames := 0, cells := 0, slots := 0, locals := 0 }
theorem msX2_becomePrinted : Ms yX2_becomePrinted cX2_becomePrinted 2 none 1 := ⟨q576, q574, q575, q38, by decide +kernel, by decide +kernel, by decide +kernel⟩
abbrev rmX2_hasFact : Room := { frames := 0, cells := 0, slots := 0, locals := 0 }
theorem msX2_hasFact : Ms yX2_hasFact cX2_hasFact 2 (some .boolean) 1 := ⟨q373, q371, q372, q38, by decide +kernel, by decide +kernel, by decide +kernel⟩
abbrev rmX2_sourceOf : Room := { frames := 1, cells := 0, slots := 0, locals := 21 }
theorem msX2_sourceOf : Ms yX2_sourceOf cX2_sourceOf 2 (some .int) 1 := ⟨q422, q420, q421, q38, by decide +kernel, by decide +kernel, by decide +kernel⟩
abbrev rmX2_linesOf : Room := { frames := 1, cells := 0, slots := 0, locals := 21 }
theorem msX2_linesOf : Ms yX2_linesOf cX2_linesOf 2 (some .int) 1 := ⟨q560, q558, q559, q38, by decide +kernel, by decide +kernel, by decide +kernel⟩
abbrev rmX2_dayOf : Room := { frames := 1, cells := 0, slots := 0, locals := 21 }
theorem msX2_dayOf : Ms yX2_dayOf cX2_dayOf 2 (some .int) 1 := ⟨q377, q375, q376, q38, by decide +kernel, by decide +kernel, by decide +kernel⟩
abbrev rmX2_addFact : Room := { frames := 0, cells := 0, slots := 0, locals := 0 }
theorem msX2_addFact : Ms yX2_addFact cX2_addFact 4 (some .int) 3 := ⟨q318, q316, q317, q38, by decide +kernel, by decide +kernel, by decide +kernel⟩
abbrev rmX2_removeFact : Room := { frames := 1, cells := 0, slots := 0, locals := 21 }
theorem msX2_removeFact : Ms yX2_removeFact cX2_removeFact 3 none 1 := ⟨q395, q393, q394, q38, by decide +kernel, by decide +kernel, by decide +kernel⟩
abbrev rmX2_changeSource : Room := { frames := 1, cells := 0, slots := 0, locals := 21 }
theorem msX2_changeSource : Ms yX2_changeSource cX2_changeSource 3 none 2 := ⟨q595, q593, q594, q38, by decide +kernel, by decide +kernel, by decide +kernel⟩
abbrev rmX2_changeDay : Room := { frames := 1, cells := 0, slots := 0, locals := 21 }
theorem msX2_changeDay : Ms yX2_changeDay cX2_changeDay 3 none 2 := ⟨q386, q384, q385, q38, by decide +kernel, by decide +kernel, by decide +kernel⟩
abbrev rmX2_length : Room := { frames := 2, cells := 0, slots := 0, locals := 42 }
theorem msX2_length : Ms yX2_length cX2_length 3 (some .int) 0 := ⟨q556, q554, q555, q38, by decide +kernel, by decide +kernel, by decide +kernel⟩
abbrev rmX2_differentSources : Room := { frames := 2, cells := 0, slots := 0, locals := 42 }
theorem msX2_differentSources : Ms yX2_differentSources cX2_differentSources 3 (some .int) 0 := ⟨q545, q543, q544, q38, by decide +kernel, by decide +kernel, by decide +kernel⟩
theorem msX3_init : Mi yX3_init cX3_init 1 0 := ⟨q187, q186, q42, by decide +kernel, by decide +kernel, by decide +kernel, rfl⟩
abbrev rmX3_lay : Room := { frames := 5, cells := 0, slots := 0, locals := 114 }
theorem msX3_lay : Ms yX3_lay cX3_lay 5 none 1 := ⟨q505, q503, q504, q42, by decide +kernel, by decide +kernel, by decide +kernel⟩
abbrev rmX3_size : Room := { frames := 0, cells := 0, slots := 0, locals := 0 }
theorem msX3_size : Ms yX3_size cX3_size 1 (some .int) 0 := ⟨q564, q562, q563, q42, by decide +kernel, by decide +kernel, by decide +kernel⟩
abbrev rmX3_linesFree : Room := { frames := 0, cells := 0, slots := 0, locals := 0 }
theorem msX3_linesFree : Ms yX3_linesFree cX3_linesFree 1 (some .int) 0 := ⟨q733, q731, q732, q42, by decide +kernel, by decide +kernel, by decide +kernel⟩
abbrev rmX3_queueDead : Room := { frames := 1, cells := 0, slots := 0, locals := 23 }
theorem msX3_queueDead : Ms yX3_queueDead cX3_queueDead 5 none 1 := ⟨q509, q508, q6, q42, by decide +kernel, by decide +kernel, by decide +kernel⟩
abbrev rmX3_personAt : Room := { frames := 0, cells := 0, slots := 0, locals := 0 }
theorem msX3_personAt : Ms yX3_personAt cX3_personAt 2 (some .int) 1 := ⟨q568, q566, q567, q42, by decide +kernel, by decide +kernel, by decide +kernel⟩
theorem msX4_init : Mi yX4_init cX4_init 2 0 := ⟨q146, q145, q40, by decide +kernel, by decide +kernel, by decide +kernel, rfl⟩
abbrev rmX4_length : Room := { frames := 0, cells := 0, slots := 0, locals := 0 }
theorem msX4_length : Ms yX4_length cX4_length 1 (some .int) 0 := ⟨q611, q609, q610, q40, by decide +kernel, by decide +kernel, by decide +kernel⟩
abbrev rmX4_append : Room := { frames := 0, cells := 0, slots := 0, locals := 0 }
theorem msX4_append : Ms yX4_append cX4_append 2 (some .boolean) 1 := ⟨q607, q605, q606, q40, by decide +kernel, by decide +kernel, by decide +kernel⟩
abbrev rmX4_clear : Room := { frames := 0, cells := 0, slots := 0, locals := 0 }
theorem msX4_clear : Ms yX4_clear cX4_clear 1 none 0 := ⟨q619, q617, q618, q40, by decide +kernel, by decide +kernel, by decide +kernel⟩
abbrev rmX4_fault : Room := { frames := 0, cells := 0, slots := 0, locals := 0 }
theorem msX4_fault : Ms yX4_fault cX4_fault 1 (some .int) 0 := ⟨q322, q320, q321, q40, by decide +kernel, by decide +kernel, by decide +kernel⟩
abbrev rmX4_personsRead : Room := { frames := 0, cells := 0, slots := 0, locals := 0 }
theorem msX4_personsRead : Ms yX4_personsRead cX4_personsRead 1 (some .int) 0 := ⟨q326, q324, q325, q40, by decide +kernel, by decide +kernel, by decide +kernel⟩
abbrev rmX4_readLife : Room := { frames := 0, cells := 0, slots := 0, locals := 0 }
theorem msX4_readLife : Ms yX4_readLife cX4_readLife 2 (some (.object "LivesAhead$Life")) 1 := ⟨q289, q287, q288, q40, by decide +kernel, by decide +kernel, by decide +kernel⟩
abbrev rmX4_readPersons : Room := { frames := 4, cells := 0, slots := 0, locals := 94 }
theorem msX4_readPersons : Ms yX4_readPersons cX4_readPersons 3 (some .boolean) 1 := ⟨q285, q283, q284, q40, by decide +kernel, by decide +kernel, by decide +kernel⟩
abbrev rmX4_readPerson : Room := { frames := 3, cells := 0, slots := 0, locals := 69 }
theorem msX4_readPerson : Ms yX4_readPerson cX4_readPerson 6 (some .boolean) 2 := ⟨q293, q292, q1, q40, by decide +kernel, by decide +kernel, by decide +kernel⟩
abbrev rmX4_readFact : Room := { frames := 2, cells := 0, slots := 0, locals := 45 }
theorem msX4_readFact : Ms yX4_readFact cX4_readFact 5 (some .boolean) 2 := ⟨q314, q313, q5, q40, by decide +kernel, by decide +kernel, by decide +kernel⟩
abbrev rmX4_takeAge : Room := { frames := 2, cells := 0, slots := 0, locals := 45 }
theorem msX4_takeAge : Ms yX4_takeAge cX4_takeAge 5 (some .int) 0 := ⟨q297, q296, q2, q40, by decide +kernel, by decide +kernel, by decide +kernel⟩
abbrev rmX4_takeDigit : Room := { frames := 1, cells := 0, slots := 0, locals := 22 }
theorem msX4_takeDigit : Ms yX4_takeDigit cX4_takeDigit 4 (some .int) 2 := ⟨q301, q300, q3, q40, by decide +kernel, by decide +kernel, by decide +kernel⟩
abbrev rmX4_takes : Room := { frames := 0, cells := 0, slots := 0, locals := 0 }
theorem msX4_takes : Ms yX4_takes cX4_takes 2 (some .boolean) 1 := ⟨q309, q308, q4, q40, by decide +kernel, by decide +kernel, by decide +kernel⟩
theorem msX5_init : Mi yX5_init cX5_init 1 0 := ⟨q171, q170, q41, by decide +kernel, by decide +kernel, by decide +kernel, rfl⟩
abbrev rmX5_clear : Room := { frames := 0, cells := 0, slots := 0, locals := 0 }
theorem msX5_clear : Ms yX5_clear cX5_clear 1 none 0 := ⟨q513, q511, q512, q41, by decide +kernel, by decide +kernel, by decide +kernel⟩
abbrev rmX5_size : Room := { frames := 0, cells := 0, slots := 0, locals := 0 }
theorem msX5_size : Ms yX5_size cX5_size 1 (some .int) 0 := ⟨q533, q531, q532, q41, by decide +kernel, by decide +kernel, by decide +kernel⟩
abbrev rmX5_enter : Room := { frames := 0, cells := 0, slots := 0, locals := 0 }
theorem msX5_enter : Ms yX5_enter cX5_enter 4 none 2 := ⟨q528, q526, q527, q41, by decide +kernel, by decide +kernel, by decide +kernel⟩
abbrev rmX5_personAt : Room := { frames := 0, cells := 0, slots := 0, locals := 0 }
theorem msX5_personAt : Ms yX5_personAt cX5_personAt 2 (some .int) 1 := ⟨q537, q535, q536, q41, by decide +kernel, by decide +kernel, by decide +kernel⟩
theorem msX6_init : Mi yX6_init cX6_init 1 0 := ⟨q52, q51, q36, by decide +kernel, by decide +kernel, by decide +kernel, rfl⟩
abbrev rmX6_addPerson : Room := { frames := 4, cells := 0, slots := 0, locals := 93 }
theorem msX6_addPerson : Ms yX6_addPerson cX6_addPerson 3 (some .int) 2 := ⟨q229, q227, q228, q36, by decide +kernel, by decide +kernel, by decide +kernel⟩
abbrev rmX6_addPersons : Room := { frames := 5, cells := 0, slots := 0, locals := 116 }
theorem msX6_addPersons : Ms yX6_addPersons cX6_addPersons 3 (some .int) 0 := ⟨q277, q275, q276, q36, by decide +kernel, by decide +kernel, by decide +kernel⟩
abbrev rmX6_write : Room := { frames := 4, cells := 0, slots := 0, locals := 93 }
theorem msX6_write : Ms yX6_write cX6_write 5 (some .int) 3 := ⟨q344, q342, q343, q36, by decide +kernel, by decide +kernel, by decide +kernel⟩
abbrev rmX6_check : Room := { frames := 4, cells := 0, slots := 0, locals := 93 }
theorem msX6_check : Ms yX6_check cX6_check 4 (some .int) 2 := ⟨q369, q367, q368, q36, by decide +kernel, by decide +kernel, by decide +kernel⟩
abbrev rmX6_strike : Room := { frames := 4, cells := 0, slots := 0, locals := 93 }
theorem msX6_strike : Ms yX6_strike cX6_strike 4 (some .int) 2 := ⟨q391, q389, q390, q36, by decide +kernel, by decide +kernel, by decide +kernel⟩
abbrev rmX6_checkUrgent : Room := { frames := 6, cells := 0, slots := 0, locals := 140 }
theorem msX6_checkUrgent : Ms yX6_checkUrgent cX6_checkUrgent 3 (some .int) 0 := ⟨q399, q397, q398, q36, by decide +kernel, by decide +kernel, by decide +kernel⟩
abbrev rmX6_trust : Room := { frames := 4, cells := 0, slots := 0, locals := 93 }
theorem msX6_trust : Ms yX6_trust cX6_trust 4 (some .int) 2 := ⟨q453, q451, q452, q36, by decide +kernel, by decide +kernel, by decide +kernel⟩
abbrev rmX6_set : Room := { frames := 4, cells := 0, slots := 0, locals := 93 }
theorem msX6_set : Ms yX6_set cX6_set 4 (some .int) 2 := ⟨q462, q460, q461, q36, by decide +kernel, by decide +kernel, by decide +kernel⟩
abbrev rmX6_tellDeath : Room := { frames := 4, cells := 0, slots := 0, locals := 93 }
theorem msX6_tellDeath : Ms yX6_tellDeath cX6_tellDeath 5 (some .int) 2 := ⟨q476, q474, q475, q36, by decide +kernel, by decide +kernel, by decide +kernel⟩
abbrev rmX6_decide : Room := { frames := 4, cells := 0, slots := 0, locals := 93 }
theorem msX6_decide : Ms yX6_decide cX6_decide 4 (some .int) 2 := ⟨q492, q490, q491, q36, by decide +kernel, by decide +kernel, by decide +kernel⟩
abbrev rmX6_print : Room := { frames := 6, cells := 0, slots := 0, locals := 138 }
theorem msX6_print : Ms yX6_print cX6_print 3 (some .int) 0 := ⟨q501, q499, q500, q36, by decide +kernel, by decide +kernel, by decide +kernel⟩
abbrev rmX6_correct : Room := { frames := 4, cells := 0, slots := 0, locals := 93 }
theorem msX6_correct : Ms yX6_correct cX6_correct 5 (some .int) 3 := ⟨q590, q588, q589, q36, by decide +kernel, by decide +kernel, by decide +kernel⟩
abbrev rmX6_type : Room := { frames := 1, cells := 0, slots := 0, locals := 21 }
theorem msX6_type : Ms yX6_type cX6_type 2 (some .int) 1 := ⟨q603, q601, q602, q36, by decide +kernel, by decide +kernel, by decide +kernel⟩
abbrev rmX6_clearText : Room := { frames := 1, cells := 0, slots := 0, locals := 20 }
theorem msX6_clearText : Ms yX6_clearText cX6_clearText 2 (some .int) 0 := ⟨q615, q613, q614, q36, by decide +kernel, by decide +kernel, by decide +kernel⟩
abbrev rmX6_undo : Room := { frames := 4, cells := 0, slots := 0, locals := 93 }
theorem msX6_undo : Ms yX6_undo cX6_undo 1 (some .int) 0 := ⟨q623, q621, q622, q36, by decide +kernel, by decide +kernel, by decide +kernel⟩
abbrev rmX6_keep : Room := { frames := 3, cells := 0, slots := 0, locals := 71 }
theorem msX6_keep : Ms yX6_keep cX6_keep 1 (some .int) 0 := ⟨q635, q633, q634, q36, by decide +kernel, by decide +kernel, by decide +kernel⟩
abbrev rmX6_restore : Room := { frames := 4, cells := 0, slots := 0, locals := 93 }
theorem msX6_restore : Ms yX6_restore cX6_restore 1 (some .int) 0 := ⟨q640, q638, q639, q36, by decide +kernel, by decide +kernel, by decide +kernel⟩
abbrev rmX6_person : Room := { frames := 5, cells := 0, slots := 0, locals := 115 }
theorem msX6_person : Ms yX6_person cX6_person 4 (some .int) 2 := ⟨q644, q642, q643, q36, by decide +kernel, by decide +kernel, by decide +kernel⟩
abbrev rmX6_fact : Room := { frames := 4, cells := 0, slots := 0, locals := 90 }
theorem msX6_fact : Ms yX6_fact cX6_fact 5 (some .int) 3 := ⟨q664, q662, q663, q36, by decide +kernel, by decide +kernel, by decide +kernel⟩
abbrev rmX6_worth : Room := { frames := 4, cells := 0, slots := 0, locals := 91 }
theorem msX6_worth : Ms yX6_worth cX6_worth 3 (some .float) 1 := ⟨q675, q673, q674, q36, by decide +kernel, by decide +kernel, by decide +kernel⟩
abbrev rmX6_urgent : Room := { frames := 6, cells := 0, slots := 0, locals := 138 }
theorem msX6_urgent : Ms yX6_urgent cX6_urgent 2 (some .int) 1 := ⟨q685, q683, q684, q36, by decide +kernel, by decide +kernel, by decide +kernel⟩
abbrev rmX6_page : Room := { frames := 6, cells := 0, slots := 0, locals := 138 }
theorem msX6_page : Ms yX6_page cX6_page 2 (some .int) 1 := ⟨q696, q694, q695, q36, by decide +kernel, by decide +kernel, by decide +kernel⟩
abbrev rmX6_source : Room := { frames := 5, cells := 0, slots := 0, locals := 115 }
theorem msX6_source : Ms yX6_source cX6_source 3 (some .int) 2 := ⟨q700, q698, q699, q36, by decide +kernel, by decide +kernel, by decide +kernel⟩
abbrev rmX6_staleIn : Room := { frames := 5, cells := 0, slots := 0, locals := 117 }
theorem msX6_staleIn : Ms yX6_staleIn cX6_staleIn 2 (some .int) 1 := ⟨q716, q714, q715, q36, by decide +kernel, by decide +kernel, by decide +kernel⟩
abbrev rmX6_count : Room := { frames := 6, cells := 0, slots := 0, locals := 138 }
theorem msX6_count : Ms yX6_count cX6_count 2 (some .int) 1 := ⟨q724, q722, q723, q36, by decide +kernel, by decide +kernel, by decide +kernel⟩
abbrev rmX6_isWithin : Room := { frames := 0, cells := 0, slots := 0, locals := 0 }
theorem msX6_isWithin : Mt yX6_isWithin cX6_isWithin 3 (some .boolean) 3 := ⟨q232, q231, q36, by decide +kernel, by decide +kernel, by decide +kernel⟩
abbrev rmX6_isSource : Room := { frames := 0, cells := 0, slots := 0, locals := 0 }
theorem msX6_isSource : Mt yX6_isSource cX6_isSource 1 (some .boolean) 1 := ⟨q348, q347, q36, by decide +kernel, by decide +kernel, by decide +kernel⟩
abbrev rmX6_isSetting : Room := { frames := 0, cells := 0, slots := 0, locals := 0 }
theorem msX6_isSetting : Mt yX6_isSetting cX6_isSetting 1 (some .boolean) 1 := ⟨q440, q439, q36, by decide +kernel, by decide +kernel, by decide +kernel⟩
abbrev rmX6_bitsOf : Room := { frames := 0, cells := 0, slots := 0, locals := 0 }
theorem msX6_bitsOf : Mt yX6_bitsOf cX6_bitsOf 3 (some .int) 1 := ⟨q670, q669, q36, by decide +kernel, by decide +kernel, by decide +kernel⟩
theorem msX7_init : Mi yX7_init cX7_init 2 0 := ⟨q742, q741, q43, by decide +kernel, by decide +kernel, by decide +kernel, rfl⟩
abbrev rmX7_in : Room := { frames := 0, cells := 0, slots := 0, locals := 0 }
theorem msX7_in : Mt yX7_in cX7_in 3 (some .boolean) 3 := ⟨q794, q793, q43, by decide +kernel, by decide +kernel, by decide +kernel⟩
abbrev rmX7_record : Room := { frames := 0, cells := 0, slots := 0, locals := 0 }
theorem msX7_record : Ms yX7_record cX7_record 2 none 0 := ⟨q798, q797, q7, q43, by decide +kernel, by decide +kernel, by decide +kernel⟩
abbrev rmX7_p : Room := { frames := 0, cells := 0, slots := 0, locals := 0 }
theorem msX7_p : Mt yX7_p cX7_p 1 (some .int) 1 := ⟨q805, q804, q43, by decide +kernel, by decide +kernel, by decide +kernel⟩
abbrev rmX7_f : Room := { frames := 0, cells := 0, slots := 0, locals := 0 }
theorem msX7_f : Mt yX7_f cX7_f 2 (some .int) 2 := ⟨q848, q847, q43, by decide +kernel, by decide +kernel, by decide +kernel⟩
abbrev rmX7_of : Room := { frames := 1, cells := 0, slots := 0, locals := 20 }
theorem msX7_of : Ms yX7_of cX7_of 3 (some .int) 2 := ⟨q845, q844, q17, q43, by decide +kernel, by decide +kernel, by decide +kernel⟩
abbrev rmX7_isPerson : Room := { frames := 1, cells := 0, slots := 0, locals := 22 }
theorem msX7_isPerson : Ms yX7_isPerson cX7_isPerson 2 (some .boolean) 1 := ⟨q856, q855, q18, q43, by decide +kernel, by decide +kernel, by decide +kernel⟩
abbrev rmX7_isFact : Room := { frames := 2, cells := 0, slots := 0, locals := 43 }
theorem msX7_isFact : Ms yX7_isFact cX7_isFact 3 (some .boolean) 2 := ⟨q864, q863, q19, q43, by decide +kernel, by decide +kernel, by decide +kernel⟩
abbrev rmX7_worthOn : Room := { frames := 1, cells := 0, slots := 0, locals := 21 }
theorem msX7_worthOn : Ms yX7_worthOn cX7_worthOn 7 (some .float) 3 := ⟨q888, q887, q23, q43, by decide +kernel, by decide +kernel, by decide +kernel⟩
abbrev rmX7_isStaleOn : Room := { frames := 2, cells := 0, slots := 0, locals := 47 }
theorem msX7_isStaleOn : Ms yX7_isStaleOn cX7_isStaleOn 4 (some .boolean) 3 := ⟨q884, q883, q22, q43, by decide +kernel, by decide +kernel, by decide +kernel⟩
abbrev rmX7_stale : Room := { frames := 3, cells := 0, slots := 0, locals := 70 }
theorem msX7_stale : Ms yX7_stale cX7_stale 5 (some .int) 2 := ⟨q898, q897, q25, q43, by decide +kernel, by decide +kernel, by decide +kernel⟩
abbrev rmX7_lines : Room := { frames := 2, cells := 0, slots := 0, locals := 42 }
theorem msX7_lines : Ms yX7_lines cX7_lines 4 (some .int) 1 := ⟨q945, q944, q31, q43, by decide +kernel, by decide +kernel, by decide +kernel⟩
abbrev rmX7_sources : Room := { frames := 2, cells := 0, slots := 0, locals := 42 }
theorem msX7_sources : Ms yX7_sources cX7_sources 5 (some .int) 1 := ⟨q937, q936, q29, q43, by decide +kernel, by decide +kernel, by decide +kernel⟩
abbrev rmX7_isReady : Room := { frames := 4, cells := 0, slots := 0, locals := 94 }
theorem msX7_isReady : Ms yX7_isReady cX7_isReady 2 (some .boolean) 1 := ⟨q933, q932, q28, q43, by decide +kernel, by decide +kernel, by decide +kernel⟩
abbrev rmX7_urgency : Room := { frames := 4, cells := 0, slots := 0, locals := 94 }
theorem msX7_urgency : Ms yX7_urgency cX7_urgency 2 (some .int) 1 := ⟨q894, q893, q24, q43, by decide +kernel, by decide +kernel, by decide +kernel⟩
abbrev rmX7_come : Room := { frames := 1, cells := 0, slots := 0, locals := 20 }
theorem msX7_come : Ms yX7_come cX7_come 4 (some .int) 2 := ⟨q802, q801, q8, q43, by decide +kernel, by decide +kernel, by decide +kernel⟩
abbrev rmX7_add : Room := { frames := 2, cells := 0, slots := 0, locals := 42 }
theorem msX7_add : Ms yX7_add cX7_add 5 none 3 := ⟨q841, q840, q16, q43, by decide +kernel, by decide +kernel, by decide +kernel⟩
abbrev rmX7_addPerson : Room := { frames := 2, cells := 0, slots := 0, locals := 43 }
theorem msX7_addPerson : Ms yX7_addPerson cX7_addPerson 3 (some .int) 2 := ⟨q791, q789, q790, q43, by decide +kernel, by decide +kernel, by decide +kernel⟩
abbrev rmX7_isSign : Room := { frames := 0, cells := 0, slots := 0, locals := 0 }
theorem msX7_isSign : Ms yX7_isSign cX7_isSign 4 (some .boolean) 3 := ⟨q829, q828, q13, q43, by decide +kernel, by decide +kernel, by decide +kernel⟩
abbrev rmX7_accepts : Room := { frames := 1, cells := 0, slots := 0, locals := 23 }
theorem msX7_accepts : Ms yX7_accepts cX7_accepts 3 (some .boolean) 1 := ⟨q833, q832, q14, q43, by decide +kernel, by decide +kernel, by decide +kernel⟩
abbrev rmX7_digit : Room := { frames := 1, cells := 0, slots := 0, locals := 23 }
theorem msX7_digit : Ms yX7_digit cX7_digit 3 (some .int) 2 := ⟨q825, q824, q12, q43, by decide +kernel, by decide +kernel, by decide +kernel⟩
abbrev rmX7_age : Room := { frames := 2, cells := 0, slots := 0, locals := 45 }
theorem msX7_age : Ms yX7_age cX7_age 2 (some .int) 0 := ⟨q821, q820, q11, q43, by decide +kernel, by decide +kernel, by decide +kernel⟩
abbrev rmX7_readsFact : Room := { frames := 2, cells := 0, slots := 0, locals := 45 }
theorem msX7_readsFact : Ms yX7_readsFact cX7_readsFact 3 (some .boolean) 1 := ⟨q837, q836, q15, q43, by decide +kernel, by decide +kernel, by decide +kernel⟩
abbrev rmX7_readsPerson : Room := { frames := 3, cells := 0, slots := 0, locals := 67 }
theorem msX7_readsPerson : Ms yX7_readsPerson cX7_readsPerson 3 (some .boolean) 0 := ⟨q817, q816, q10, q43, by decide +kernel, by decide +kernel, by decide +kernel⟩
abbrev rmX7_faultOf : Room := { frames := 4, cells := 0, slots := 0, locals := 89 }
theorem msX7_faultOf : Ms yX7_faultOf cX7_faultOf 2 (some .int) 0 := ⟨q813, q812, q9, q43, by decide +kernel, by decide +kernel, by decide +kernel⟩
abbrev rmX7_addPersons : Room := { frames := 5, cells := 0, slots := 0, locals := 110 }
theorem msX7_addPersons : Ms yX7_addPersons cX7_addPersons 5 (some .int) 0 := ⟨q809, q807, q808, q43, by decide +kernel, by decide +kernel, by decide +kernel⟩
abbrev rmX7_write : Room := { frames := 3, cells := 0, slots := 0, locals := 66 }
theorem msX7_write : Ms yX7_write cX7_write 4 (some .int) 3 := ⟨q852, q850, q851, q43, by decide +kernel, by decide +kernel, by decide +kernel⟩
abbrev rmX7_check : Room := { frames := 3, cells := 0, slots := 0, locals := 65 }
theorem msX7_check : Ms yX7_check cX7_check 3 (some .int) 2 := ⟨q860, q858, q859, q43, by decide +kernel, by decide +kernel, by decide +kernel⟩
abbrev rmX7_strike : Room := { frames := 3, cells := 0, slots := 0, locals := 65 }
theorem msX7_strike : Ms yX7_strike cX7_strike 4 (some .int) 2 := ⟨q868, q866, q867, q43, by decide +kernel, by decide +kernel, by decide +kernel⟩
abbrev rmX7_due : Room := { frames := 3, cells := 0, slots := 0, locals := 70 }
theorem msX7_due : Ms yX7_due cX7_due 4 (some .int) 1 := ⟨q880, q879, q21, q43, by decide +kernel, by decide +kernel, by decide +kernel⟩
abbrev rmX7_mostUrgent : Room := { frames := 5, cells := 0, slots := 0, locals := 115 }
theorem msX7_mostUrgent : Ms yX7_mostUrgent cX7_mostUrgent 4 (some .int) 0 := ⟨q876, q875, q20, q43, by decide +kernel, by decide +kernel, by decide +kernel⟩
abbrev rmX7_checkUrgent : Room := { frames := 6, cells := 0, slots := 0, locals := 138 }
theorem msX7_checkUrgent : Ms yX7_checkUrgent cX7_checkUrgent 3 (some .int) 0 := ⟨q872, q870, q871, q43, by decide +kernel, by decide +kernel, by decide +kernel⟩
abbrev rmX7_trust : Room := { frames := 1, cells := 0, slots := 0, locals := 22 }
theorem msX7_trust : Ms yX7_trust cX7_trust 4 (some .int) 2 := ⟨q902, q900, q901, q43, by decide +kernel, by decide +kernel, by decide +kernel⟩
abbrev rmX7_isSetting : Room := { frames := 1, cells := 0, slots := 0, locals := 22 }
theorem msX7_isSetting : Mt yX7_isSetting cX7_isSetting 2 (some .boolean) 2 := ⟨q909, q908, q43, by decide +kernel, by decide +kernel, by decide +kernel⟩
abbrev rmX7_set : Room := { frames := 2, cells := 0, slots := 0, locals := 43 }
theorem msX7_set : Ms yX7_set cX7_set 4 (some .int) 2 := ⟨q906, q904, q905, q43, by decide +kernel, by decide +kernel, by decide +kernel⟩
abbrev rmX7_inState : Room := { frames := 2, cells := 0, slots := 0, locals := 42 }
theorem msX7_inState : Ms yX7_inState cX7_inState 4 (some .int) 1 := ⟨q921, q920, q26, q43, by decide +kernel, by decide +kernel, by decide +kernel⟩
abbrev rmX7_tellDeath : Room := { frames := 2, cells := 0, slots := 0, locals := 43 }
theorem msX7_tellDeath : Ms yX7_tellDeath cX7_tellDeath 4 (some .int) 2 := ⟨q913, q911, q912, q43, by decide +kernel, by decide +kernel, by decide +kernel⟩
abbrev rmX7_decide : Room := { frames := 3, cells := 0, slots := 0, locals := 65 }
theorem msX7_decide : Ms yX7_decide cX7_decide 4 (some .int) 2 := ⟨q917, q915, q916, q43, by decide +kernel, by decide +kernel, by decide +kernel⟩
abbrev rmX7_isAhead : Room := { frames := 2, cells := 0, slots := 0, locals := 42 }
theorem msX7_isAhead : Ms yX7_isAhead cX7_isAhead 4 (some .boolean) 2 := ⟨q941, q940, q30, q43, by decide +kernel, by decide +kernel, by decide +kernel⟩
abbrev rmX7_layPage : Room := { frames := 5, cells := 0, slots := 0, locals := 115 }
theorem msX7_layPage : Ms yX7_layPage cX7_layPage 4 none 0 := ⟨q929, q928, q27, q43, by decide +kernel, by decide +kernel, by decide +kernel⟩
abbrev rmX7_print : Room := { frames := 6, cells := 0, slots := 0, locals := 138 }
theorem msX7_print : Ms yX7_print cX7_print 3 (some .int) 0 := ⟨q925, q923, q924, q43, by decide +kernel, by decide +kernel, by decide +kernel⟩
abbrev rmX7_correct : Room := { frames := 3, cells := 0, slots := 0, locals := 65 }
theorem msX7_correct : Ms yX7_correct cX7_correct 4 (some .int) 3 := ⟨q949, q947, q948, q43, by decide +kernel, by decide +kernel, by decide +kernel⟩
abbrev rmX7_type : Room := { frames := 0, cells := 0, slots := 0, locals := 0 }
theorem msX7_type : Ms yX7_type cX7_type 2 (some .int) 1 := ⟨q953, q951, q952, q43, by decide +kernel, by decide +kernel, by decide +kernel⟩
abbrev rmX7_clearText : Room := { frames := 0, cells := 0, slots := 0, locals := 0 }
theorem msX7_clearText : Ms yX7_clearText cX7_clearText 2 (some .int) 0 := ⟨q957, q955, q956, q43, by decide +kernel, by decide +kernel, by decide +kernel⟩
abbrev rmX7_undo : Room := { frames := 0, cells := 0, slots := 0, locals := 0 }
theorem msX7_undo : Ms yX7_undo cX7_undo 2 (some .int) 0 := ⟨q961, q959, q960, q43, by decide +kernel, by decide +kernel, by decide +kernel⟩
abbrev rmX7_keep : Room := { frames := 0, cells := 0, slots := 0, locals := 0 }
theorem msX7_keep : Ms yX7_keep cX7_keep 2 (some .int) 0 := ⟨q965, q963, q964, q43, by decide +kernel, by decide +kernel, by decide +kernel⟩
abbrev rmX7_restore : Room := { frames := 1, cells := 0, slots := 0, locals := 21 }
theorem msX7_restore : Ms yX7_restore cX7_restore 2 (some .int) 0 := ⟨q969, q967, q968, q43, by decide +kernel, by decide +kernel, by decide +kernel⟩
abbrev rmX7_person : Room := { frames := 5, cells := 0, slots := 0, locals := 115 }
theorem msX7_person : Ms yX7_person cX7_person 3 (some .int) 2 := ⟨q973, q971, q972, q43, by decide +kernel, by decide +kernel, by decide +kernel⟩
abbrev rmX7_fact : Room := { frames := 3, cells := 0, slots := 0, locals := 70 }
theorem msX7_fact : Ms yX7_fact cX7_fact 4 (some .int) 3 := ⟨q977, q975, q976, q43, by decide +kernel, by decide +kernel, by decide +kernel⟩
abbrev rmX7_worth : Room := { frames := 2, cells := 0, slots := 0, locals := 47 }
theorem msX7_worth : Ms yX7_worth cX7_worth 4 (some .float) 1 := ⟨q991, q989, q990, q43, by decide +kernel, by decide +kernel, by decide +kernel⟩
abbrev rmX7_urgent : Room := { frames := 5, cells := 0, slots := 0, locals := 115 }
theorem msX7_urgent : Ms yX7_urgent cX7_urgent 7 (some .int) 1 := ⟨q996, q994, q995, q43, by decide +kernel, by decide +kernel, by decide +kernel⟩
abbrev rmX7_page : Room := { frames := 6, cells := 0, slots := 0, locals := 138 }
theorem msX7_page : Ms yX7_page cX7_page 2 (some .int) 1 := ⟨q1000, q998, q999, q43, by decide +kernel, by decide +kernel, by decide +kernel⟩
abbrev rmX7_source : Room := { frames := 3, cells := 0, slots := 0, locals := 70 }
theorem msX7_source : Ms yX7_source cX7_source 7 (some .int) 2 := ⟨q1004, q1002, q1003, q43, by decide +kernel, by decide +kernel, by decide +kernel⟩
abbrev rmX7_staleOn : Room := { frames := 4, cells := 0, slots := 0, locals := 94 }
theorem msX7_staleOn : Ms yX7_staleOn cX7_staleOn 4 (some .int) 1 := ⟨q1012, q1011, q32, q43, by decide +kernel, by decide +kernel, by decide +kernel⟩
abbrev rmX7_staleIn : Room := { frames := 5, cells := 0, slots := 0, locals := 117 }
theorem msX7_staleIn : Ms yX7_staleIn cX7_staleIn 2 (some .int) 1 := ⟨q1008, q1006, q1007, q43, by decide +kernel, by decide +kernel, by decide +kernel⟩
abbrev rmX7_facts : Room := { frames := 2, cells := 0, slots := 0, locals := 42 }
theorem msX7_facts : Ms yX7_facts cX7_facts 3 (some .int) 0 := ⟨q1020, q1019, q33, q43, by decide +kernel, by decide +kernel, by decide +kernel⟩
abbrev rmX7_freeLines : Room := { frames := 6, cells := 0, slots := 0, locals := 138 }
theorem msX7_freeLines : Ms yX7_freeLines cX7_freeLines 1 (some .int) 0 := ⟨q1024, q1023, q34, q43, by decide +kernel, by decide +kernel, by decide +kernel⟩
abbrev rmX7_count : Room := { frames := 7, cells := 0, slots := 0, locals := 158 }
theorem msX7_count : Ms yX7_count cX7_count 2 (some .int) 1 := ⟨q1016, q1014, q1015, q43, by decide +kernel, by decide +kernel, by decide +kernel⟩
abbrev rmJ6_bitCount_0f7a4 : Room := { frames := 0, cells := 0, slots := 0, locals := 0 }
theorem msJ6_bitCount_0f7a4 : Mt yJ6_bitCount_0f7a4 cJ6_bitCount_0f7a4 1 (some .int) 1 := ⟨q549, q548, q46, by decide +kernel, by decide +kernel, by decide +kernel⟩
abbrev rmJ9_min_7cf53 : Room := { frames := 0, cells := 0, slots := 0, locals := 0 }
theorem msJ9_min_7cf53 : Mt yJ9_min_7cf53 cJ9_min_7cf53 2 (some .int) 2 := ⟨q305, q304, q45, by decide +kernel, by decide +kernel, by decide +kernel⟩
abbrev rmJxf58ca_isNaN_12338 : Room := { frames := 0, cells := 0, slots := 0, locals := 0 }
theorem msJxf58ca_isNaN_12338 : Mt yJxf58ca_isNaN_12338 cJxf58ca_isNaN_12338 1 (some .boolean) 1 := ⟨q983, q982, q47, by decide +kernel, by decide +kernel, by decide +kernel⟩
abbrev rmJxf58ca_floatToIntBits_5c35a : Room := { frames := 1, cells := 0, slots := 0, locals := 30 }
theorem msJxf58ca_floatToIntBits_5c35a : Mt yJxf58ca_floatToIntBits_5c35a cJxf58ca_floatToIntBits_5c35a 1 (some .int) 1 := ⟨q980, q979, q47, by decide +kernel, by decide +kernel, by decide +kernel⟩
