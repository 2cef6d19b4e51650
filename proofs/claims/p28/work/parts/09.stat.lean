theorem life_at {o q i : Int} (ho : isDesk o) (e : q = 4 * i + o + 4) (hi : 0 ≤ i ∧ i < 20) : isLife q := by
  subst e
  rw [show 4 * i + o + 4 = o + 4 + 4 * i by omega]
  exact ho.2.2.2.2.2 i hi
theorem msX0_init : Mi yX0_init cX0_init 2 0 := ⟨q24, q23, q4, by decide +kernel, by decide +kernel, by decide +kernel, rfl⟩
abbrev rmX0_copyFrom : Room := { frames := 2, cells := 0, slots := 0, locals := 47 }
theorem msX0_copyFrom : Ms yX0_copyFrom cX0_copyFrom 5 none 1 := ⟨q210, q208, q209, q4, by decide +kernel, by decide +kernel, by decide +kernel⟩
abbrev rmX0_today : Room := { frames := 0, cells := 0, slots := 0, locals := 0 }
theorem msX0_today : Ms yX0_today cX0_today 1 (some .int) 0 := ⟨q359, q357, q358, q4, by decide +kernel, by decide +kernel, by decide +kernel⟩
abbrev rmX0_hoursLeft : Room := { frames := 0, cells := 0, slots := 0, locals := 0 }
theorem msX0_hoursLeft : Ms yX0_hoursLeft cX0_hoursLeft 1 (some .int) 0 := ⟨q470, q468, q469, q4, by decide +kernel, by decide +kernel, by decide +kernel⟩
abbrev rmX0_persons : Room := { frames := 0, cells := 0, slots := 0, locals := 0 }
theorem msX0_persons : Ms yX0_persons cX0_persons 1 (some .int) 0 := ⟨q430, q428, q429, q4, by decide +kernel, by decide +kernel, by decide +kernel⟩
abbrev rmX0_corrections : Room := { frames := 0, cells := 0, slots := 0, locals := 0 }
theorem msX0_corrections : Ms yX0_corrections cX0_corrections 1 (some .int) 0 := ⟨q486, q484, q485, q4, by decide +kernel, by decide +kernel, by decide +kernel⟩
abbrev rmX0_roomForPersons : Room := { frames := 0, cells := 0, slots := 0, locals := 0 }
theorem msX0_roomForPersons : Ms yX0_roomForPersons cX0_roomForPersons 1 (some .int) 0 := ⟨q198, q196, q197, q4, by decide +kernel, by decide +kernel, by decide +kernel⟩
abbrev rmX0_lifeOf : Room := { frames := 0, cells := 0, slots := 0, locals := 0 }
theorem msX0_lifeOf : Ms yX0_lifeOf cX0_lifeOf 2 (some (.object "LivesAhead$Life")) 1 := ⟨q217, q215, q216, q4, by decide +kernel, by decide +kernel, by decide +kernel⟩
abbrev rmX0_join : Room := { frames := 2, cells := 0, slots := 0, locals := 42 }
theorem msX0_join : Ms yX0_join cX0_join 4 (some .int) 2 := ⟨q226, q224, q225, q4, by decide +kernel, by decide +kernel, by decide +kernel⟩
abbrev rmX0_spendHours : Room := { frames := 0, cells := 0, slots := 0, locals := 0 }
theorem msX0_spendHours : Ms yX0_spendHours cX0_spendHours 2 none 1 := ⟨q324, q322, q323, q4, by decide +kernel, by decide +kernel, by decide +kernel⟩
abbrev rmX0_setting : Room := { frames := 1, cells := 0, slots := 0, locals := 20 }
theorem msX0_setting : Ms yX0_setting cX0_setting 2 (some .int) 1 := ⟨q292, q290, q291, q4, by decide +kernel, by decide +kernel, by decide +kernel⟩
abbrev rmX0_changeSetting : Room := { frames := 1, cells := 0, slots := 0, locals := 20 }
theorem msX0_changeSetting : Ms yX0_changeSetting cX0_changeSetting 3 none 2 := ⟨q338, q336, q337, q4, by decide +kernel, by decide +kernel, by decide +kernel⟩
abbrev rmX0_trustOf : Room := { frames := 1, cells := 0, slots := 0, locals := 20 }
theorem msX0_trustOf : Ms yX0_trustOf cX0_trustOf 2 (some .int) 1 := ⟨q279, q277, q278, q4, by decide +kernel, by decide +kernel, by decide +kernel⟩
abbrev rmX0_changeTrust : Room := { frames := 1, cells := 0, slots := 0, locals := 20 }
theorem msX0_changeTrust : Ms yX0_changeTrust cX0_changeTrust 3 none 2 := ⟨q636, q634, q635, q4, by decide +kernel, by decide +kernel, by decide +kernel⟩
abbrev rmX0_personsIn : Room := { frames := 1, cells := 0, slots := 0, locals := 21 }
theorem msX0_personsIn : Ms yX0_personsIn cX0_personsIn 5 (some .int) 1 := ⟨q474, q472, q473, q4, by decide +kernel, by decide +kernel, by decide +kernel⟩
abbrev rmX0_facts : Room := { frames := 1, cells := 0, slots := 0, locals := 21 }
theorem msX0_facts : Ms yX0_facts cX0_facts 4 (some .int) 0 := ⟨q478, q476, q477, q4, by decide +kernel, by decide +kernel, by decide +kernel⟩
abbrev rmX0_worthOf : Room := { frames := 2, cells := 0, slots := 0, locals := 42 }
theorem msX0_worthOf : Ms yX0_worthOf cX0_worthOf 7 (some .float) 3 := ⟨q271, q269, q270, q4, by decide +kernel, by decide +kernel, by decide +kernel⟩
abbrev rmX0_worthOfLife : Room := { frames := 3, cells := 0, slots := 0, locals := 68 }
theorem msX0_worthOfLife : Ms yX0_worthOfLife cX0_worthOfLife 4 (some .float) 1 := ⟨q545, q543, q544, q4, by decide +kernel, by decide +kernel, by decide +kernel⟩
abbrev rmX0_bound : Room := { frames := 2, cells := 0, slots := 0, locals := 41 }
theorem msX0_bound : Ms yX0_bound cX0_bound 1 (some .float) 0 := ⟨q288, q286, q287, q4, by decide +kernel, by decide +kernel, by decide +kernel⟩
abbrev rmX0_isStale : Room := { frames := 3, cells := 0, slots := 0, locals := 68 }
theorem msX0_isStale : Ms yX0_isStale cX0_isStale 3 (some .boolean) 2 := ⟨q267, q265, q266, q4, by decide +kernel, by decide +kernel, by decide +kernel⟩
abbrev rmX0_staleFactsOf : Room := { frames := 3, cells := 0, slots := 0, locals := 68 }
theorem msX0_staleFactsOf : Ms yX0_staleFactsOf cX0_staleFactsOf 6 (some .int) 2 := ⟨q311, q309, q310, q4, by decide +kernel, by decide +kernel, by decide +kernel⟩
abbrev rmX0_staleFactsOn : Room := { frames := 4, cells := 0, slots := 0, locals := 93 }
theorem msX0_staleFactsOn : Ms yX0_staleFactsOn cX0_staleFactsOn 5 (some .int) 1 := ⟨q461, q459, q460, q4, by decide +kernel, by decide +kernel, by decide +kernel⟩
abbrev rmX0_factsFrom : Room := { frames := 2, cells := 0, slots := 0, locals := 42 }
theorem msX0_factsFrom : Ms yX0_factsFrom cX0_factsFrom 6 (some .int) 1 := ⟨q525, q523, q524, q4, by decide +kernel, by decide +kernel, by decide +kernel⟩
abbrev rmX0_staleFactsFrom : Room := { frames := 4, cells := 0, slots := 0, locals := 90 }
theorem msX0_staleFactsFrom : Ms yX0_staleFactsFrom cX0_staleFactsFrom 6 (some .int) 1 := ⟨q529, q527, q528, q4, by decide +kernel, by decide +kernel, by decide +kernel⟩
abbrev rmX0_linesFrom : Room := { frames := 2, cells := 0, slots := 0, locals := 42 }
theorem msX0_linesFrom : Ms yX0_linesFrom cX0_linesFrom 6 (some .int) 1 := ⟨q533, q531, q532, q4, by decide +kernel, by decide +kernel, by decide +kernel⟩
abbrev rmX0_urgencyOf : Room := { frames := 4, cells := 0, slots := 0, locals := 93 }
theorem msX0_urgencyOf : Ms yX0_urgencyOf cX0_urgencyOf 3 (some .int) 1 := ⟨q299, q297, q298, q4, by decide +kernel, by decide +kernel, by decide +kernel⟩
abbrev rmX0_rankUrgencies : Room := { frames := 5, cells := 0, slots := 0, locals := 115 }
theorem msX0_rankUrgencies : Ms yX0_rankUrgencies cX0_rankUrgencies 4 none 1 := ⟨q553, q551, q552, q4, by decide +kernel, by decide +kernel, by decide +kernel⟩
abbrev rmX0_firstToCheck : Room := { frames := 4, cells := 0, slots := 0, locals := 90 }
theorem msX0_firstToCheck : Ms yX0_firstToCheck cX0_firstToCheck 3 (some .int) 1 := ⟨q251, q249, q250, q4, by decide +kernel, by decide +kernel, by decide +kernel⟩
abbrev rmX0_mostUrgentToCheck : Room := { frames := 5, cells := 0, slots := 0, locals := 115 }
theorem msX0_mostUrgentToCheck : Ms yX0_mostUrgentToCheck cX0_mostUrgentToCheck 6 (some (.object "LivesAhead$Life")) 0 := ⟨q243, q241, q242, q4, by decide +kernel, by decide +kernel, by decide +kernel⟩
abbrev rmX0_checkToday : Room := { frames := 2, cells := 0, slots := 0, locals := 43 }
theorem msX0_checkToday : Ms yX0_checkToday cX0_checkToday 3 none 2 := ⟨q316, q314, q315, q4, by decide +kernel, by decide +kernel, by decide +kernel⟩
abbrev rmX0_couldPrint : Room := { frames := 4, cells := 0, slots := 0, locals := 93 }
theorem msX0_couldPrint : Ms yX0_couldPrint cX0_couldPrint 2 (some .boolean) 1 := ⟨q409, q407, q408, q4, by decide +kernel, by decide +kernel, by decide +kernel⟩
abbrev rmX0_markPrinted : Room := { frames := 1, cells := 0, slots := 0, locals := 21 }
theorem msX0_markPrinted : Ms yX0_markPrinted cX0_markPrinted 3 none 1 := ⟨q574, q572, q573, q4, by decide +kernel, by decide +kernel, by decide +kernel⟩
abbrev rmX0_takeBackOldDeaths : Room := { frames := 2, cells := 0, slots := 0, locals := 41 }
theorem msX0_takeBackOldDeaths : Ms yX0_takeBackOldDeaths cX0_takeBackOldDeaths 3 none 0 := ⟨q582, q580, q581, q4, by decide +kernel, by decide +kernel, by decide +kernel⟩
abbrev rmX0_beginNextDay : Room := { frames := 2, cells := 0, slots := 0, locals := 41 }
theorem msX0_beginNextDay : Ms yX0_beginNextDay cX0_beginNextDay 1 none 0 := ⟨q588, q586, q587, q4, by decide +kernel, by decide +kernel, by decide +kernel⟩
theorem msX1_init : Mi yX1_init cX1_init 2 0 := ⟨q91, q90, q6, by decide +kernel, by decide +kernel, by decide +kernel, rfl⟩
abbrev rmX1_size : Room := { frames := 0, cells := 0, slots := 0, locals := 0 }
theorem msX1_size : Ms yX1_size cX1_size 1 (some .int) 0 := ⟨q346, q344, q345, q6, by decide +kernel, by decide +kernel, by decide +kernel⟩
abbrev rmX1_remember : Room := { frames := 3, cells := 0, slots := 0, locals := 71 }
theorem msX1_remember : Ms yX1_remember cX1_remember 3 none 1 := ⟨q202, q200, q201, q6, by decide +kernel, by decide +kernel, by decide +kernel⟩
abbrev rmX1_takeLatest : Room := { frames := 3, cells := 0, slots := 0, locals := 71 }
theorem msX1_takeLatest : Ms yX1_takeLatest cX1_takeLatest 3 none 1 := ⟨q350, q348, q349, q6, by decide +kernel, by decide +kernel, by decide +kernel⟩
abbrev rmX1_stateAt : Room := { frames := 0, cells := 0, slots := 0, locals := 0 }
theorem msX1_stateAt : Ms yX1_stateAt cX1_stateAt 3 (some (.object "LivesAhead$Desk")) 1 := ⟨q206, q205, q0, q6, by decide +kernel, by decide +kernel, by decide +kernel⟩
theorem msX2_init : Mi yX2_init cX2_init 1 0 := ⟨q31, q30, q5, by decide +kernel, by decide +kernel, by decide +kernel, rfl⟩
abbrev rmX2_begin : Room := { frames := 1, cells := 0, slots := 0, locals := 20 }
theorem msX2_begin : Ms yX2_begin cX2_begin 3 none 2 := ⟨q231, q229, q230, q5, by decide +kernel, by decide +kernel, by decide +kernel⟩
abbrev rmX2_copyLife : Room := { frames := 1, cells := 0, slots := 0, locals := 26 }
theorem msX2_copyLife : Ms yX2_copyLife cX2_copyLife 2 none 1 := ⟨q221, q219, q220, q5, by decide +kernel, by decide +kernel, by decide +kernel⟩
abbrev rmX2_age : Room := { frames := 0, cells := 0, slots := 0, locals := 0 }
theorem msX2_age : Ms yX2_age cX2_age 1 (some .int) 0 := ⟨q303, q301, q302, q5, by decide +kernel, by decide +kernel, by decide +kernel⟩
abbrev rmX2_rank : Room := { frames := 0, cells := 0, slots := 0, locals := 0 }
theorem msX2_rank : Ms yX2_rank cX2_rank 1 (some .int) 0 := ⟨q307, q305, q306, q5, by decide +kernel, by decide +kernel, by decide +kernel⟩
abbrev rmX2_state : Room := { frames := 0, cells := 0, slots := 0, locals := 0 }
theorem msX2_state : Ms yX2_state cX2_state 1 (some .int) 0 := ⟨q374, q372, q373, q5, by decide +kernel, by decide +kernel, by decide +kernel⟩
abbrev rmX2_isIn : Room := { frames := 0, cells := 0, slots := 0, locals := 0 }
theorem msX2_isIn : Ms yX2_isIn cX2_isIn 2 (some .boolean) 1 := ⟨q247, q245, q246, q5, by decide +kernel, by decide +kernel, by decide +kernel⟩
abbrev rmX2_teller : Room := { frames := 0, cells := 0, slots := 0, locals := 0 }
theorem msX2_teller : Ms yX2_teller cX2_teller 1 (some .int) 0 := ⟨q615, q613, q614, q5, by decide +kernel, by decide +kernel, by decide +kernel⟩
abbrev rmX2_deathDay : Room := { frames := 0, cells := 0, slots := 0, locals := 0 }
theorem msX2_deathDay : Ms yX2_deathDay cX2_deathDay 1 (some .int) 0 := ⟨q401, q399, q400, q5, by decide +kernel, by decide +kernel, by decide +kernel⟩
abbrev rmX2_printDay : Room := { frames := 0, cells := 0, slots := 0, locals := 0 }
theorem msX2_printDay : Ms yX2_printDay cX2_printDay 1 (some .int) 0 := ⟨q405, q403, q404, q5, by decide +kernel, by decide +kernel, by decide +kernel⟩
abbrev rmX2_size : Room := { frames := 0, cells := 0, slots := 0, locals := 0 }
theorem msX2_size : Ms yX2_size cX2_size 1 (some .int) 0 := ⟨q255, q253, q254, q5, by decide +kernel, by decide +kernel, by decide +kernel⟩
abbrev rmX2_tellDead : Room := { frames := 0, cells := 0, slots := 0, locals := 0 }
theorem msX2_tellDead : Ms yX2_tellDead cX2_tellDead 3 none 2 := ⟨q623, q621, q622, q5, by decide +kernel, by decide +kernel, by decide +kernel⟩
abbrev rmX2_confirmDeath : Room := { frames := 0, cells := 0, slots := 0, locals := 0 }
theorem msX2_confirmDeath : Ms yX2_confirmDeath cX2_confirmDeath 2 none 1 := ⟨q619, q617, q618, q5, by decide +kernel, by decide +kernel, by decide +kernel⟩
abbrev rmX2_takeBackDeath : Room := { frames := 0, cells := 0, slots := 0, locals := 0 }
theorem msX2_takeBackDeath : Ms yX2_takeBackDeath cX2_takeBackDeath 1 none 0 := ⟨q235, q233, q234, q5, by decide +kernel, by decide +kernel, by decide +kernel⟩
abbrev rmX2_becomePrinted : Room := { frames := 0, cells := 0, slots := 0, locals := 0 }
theorem msX2_becomePrinted : Ms yX2_becomePrinted cX2_becomePrinted 2 none 1 := ⟨q578, q576, q577, q5, by decide +kernel, by decide +kernel, by decide +kernel⟩
abbrev rmX2_hasFact : Room := { frames := 0, cells := 0, slots := 0, locals := 0 }
theorem msX2_hasFact : Ms yX2_hasFact cX2_hasFact 2 (some .boolean) 1 := ⟨q263, q261, q262, q5, by decide +kernel, by decide +kernel, by decide +kernel⟩
abbrev rmX2_sourceOf : Room := { frames := 1, cells := 0, slots := 0, locals := 21 }
theorem msX2_sourceOf : Ms yX2_sourceOf cX2_sourceOf 2 (some .int) 1 := ⟨q275, q273, q274, q5, by decide +kernel, by decide +kernel, by decide +kernel⟩
abbrev rmX2_linesOf : Room := { frames := 1, cells := 0, slots := 0, locals := 21 }
theorem msX2_linesOf : Ms yX2_linesOf cX2_linesOf 2 (some .int) 1 := ⟨q383, q381, q382, q5, by decide +kernel, by decide +kernel, by decide +kernel⟩
abbrev rmX2_dayOf : Room := { frames := 1, cells := 0, slots := 0, locals := 21 }
theorem msX2_dayOf : Ms yX2_dayOf cX2_dayOf 2 (some .int) 1 := ⟨q259, q257, q258, q5, by decide +kernel, by decide +kernel, by decide +kernel⟩
abbrev rmX2_addFact : Room := { frames := 0, cells := 0, slots := 0, locals := 0 }
theorem msX2_addFact : Ms yX2_addFact cX2_addFact 4 (some .int) 3 := ⟨q600, q598, q599, q5, by decide +kernel, by decide +kernel, by decide +kernel⟩
abbrev rmX2_removeFact : Room := { frames := 1, cells := 0, slots := 0, locals := 21 }
theorem msX2_removeFact : Ms yX2_removeFact cX2_removeFact 3 none 1 := ⟨q644, q642, q643, q5, by decide +kernel, by decide +kernel, by decide +kernel⟩
abbrev rmX2_changeDay : Room := { frames := 1, cells := 0, slots := 0, locals := 21 }
theorem msX2_changeDay : Ms yX2_changeDay cX2_changeDay 3 none 2 := ⟨q320, q318, q319, q5, by decide +kernel, by decide +kernel, by decide +kernel⟩
abbrev rmX2_length : Room := { frames := 2, cells := 0, slots := 0, locals := 42 }
theorem msX2_length : Ms yX2_length cX2_length 3 (some .int) 0 := ⟨q379, q377, q378, q5, by decide +kernel, by decide +kernel, by decide +kernel⟩
abbrev rmX2_differentSources : Room := { frames := 2, cells := 0, slots := 0, locals := 42 }
theorem msX2_differentSources : Ms yX2_differentSources cX2_differentSources 3 (some .int) 0 := ⟨q388, q386, q387, q5, by decide +kernel, by decide +kernel, by decide +kernel⟩
theorem msX3_init : Mi yX3_init cX3_init 1 0 := ⟨q149, q148, q9, by decide +kernel, by decide +kernel, by decide +kernel, rfl⟩
abbrev rmX3_lay : Room := { frames := 5, cells := 0, slots := 0, locals := 114 }
theorem msX3_lay : Ms yX3_lay cX3_lay 5 none 1 := ⟨q418, q416, q417, q9, by decide +kernel, by decide +kernel, by decide +kernel⟩
abbrev rmX3_size : Room := { frames := 0, cells := 0, slots := 0, locals := 0 }
theorem msX3_size : Ms yX3_size cX3_size 1 (some .int) 0 := ⟨q570, q568, q569, q9, by decide +kernel, by decide +kernel, by decide +kernel⟩
abbrev rmX3_linesFree : Room := { frames := 0, cells := 0, slots := 0, locals := 0 }
theorem msX3_linesFree : Ms yX3_linesFree cX3_linesFree 1 (some .int) 0 := ⟨q482, q480, q481, q9, by decide +kernel, by decide +kernel, by decide +kernel⟩
abbrev rmX3_queueDead : Room := { frames := 1, cells := 0, slots := 0, locals := 23 }
theorem msX3_queueDead : Ms yX3_queueDead cX3_queueDead 5 none 1 := ⟨q422, q421, q1, q9, by decide +kernel, by decide +kernel, by decide +kernel⟩
abbrev rmX3_personAt : Room := { frames := 0, cells := 0, slots := 0, locals := 0 }
theorem msX3_personAt : Ms yX3_personAt cX3_personAt 2 (some .int) 1 := ⟨q453, q451, q452, q9, by decide +kernel, by decide +kernel, by decide +kernel⟩
theorem msX4_init : Mi yX4_init cX4_init 2 0 := ⟨q110, q109, q7, by decide +kernel, by decide +kernel, by decide +kernel, rfl⟩
abbrev rmX4_length : Room := { frames := 0, cells := 0, slots := 0, locals := 0 }
theorem msX4_length : Ms yX4_length cX4_length 1 (some .int) 0 := ⟨q490, q488, q489, q7, by decide +kernel, by decide +kernel, by decide +kernel⟩
theorem msX5_init : Mi yX5_init cX5_init 1 0 := ⟨q133, q132, q8, by decide +kernel, by decide +kernel, by decide +kernel, rfl⟩
abbrev rmX5_clear : Room := { frames := 0, cells := 0, slots := 0, locals := 0 }
theorem msX5_clear : Ms yX5_clear cX5_clear 1 none 0 := ⟨q426, q424, q425, q8, by decide +kernel, by decide +kernel, by decide +kernel⟩
abbrev rmX5_size : Room := { frames := 0, cells := 0, slots := 0, locals := 0 }
theorem msX5_size : Ms yX5_size cX5_size 1 (some .int) 0 := ⟨q443, q441, q442, q8, by decide +kernel, by decide +kernel, by decide +kernel⟩
abbrev rmX5_enter : Room := { frames := 0, cells := 0, slots := 0, locals := 0 }
theorem msX5_enter : Ms yX5_enter cX5_enter 4 none 2 := ⟨q438, q436, q437, q8, by decide +kernel, by decide +kernel, by decide +kernel⟩
abbrev rmX5_personAt : Room := { frames := 0, cells := 0, slots := 0, locals := 0 }
theorem msX5_personAt : Ms yX5_personAt cX5_personAt 2 (some .int) 1 := ⟨q447, q445, q446, q8, by decide +kernel, by decide +kernel, by decide +kernel⟩
theorem msX6_init : Mi yX6_init cX6_init 1 0 := ⟨q16, q15, q3, by decide +kernel, by decide +kernel, by decide +kernel, rfl⟩
abbrev rmX6_addPerson : Room := { frames := 4, cells := 0, slots := 0, locals := 93 }
theorem msX6_addPerson : Ms yX6_addPerson cX6_addPerson 3 (some .int) 2 := ⟨q191, q189, q190, q3, by decide +kernel, by decide +kernel, by decide +kernel⟩
abbrev rmX6_write : Room := { frames := 4, cells := 0, slots := 0, locals := 93 }
theorem msX6_write : Ms yX6_write cX6_write 5 (some .int) 3 := ⟨q595, q593, q594, q3, by decide +kernel, by decide +kernel, by decide +kernel⟩
abbrev rmX6_check : Room := { frames := 4, cells := 0, slots := 0, locals := 93 }
theorem msX6_check : Ms yX6_check cX6_check 4 (some .int) 2 := ⟨q604, q602, q603, q3, by decide +kernel, by decide +kernel, by decide +kernel⟩
abbrev rmX6_strike : Room := { frames := 4, cells := 0, slots := 0, locals := 93 }
theorem msX6_strike : Ms yX6_strike cX6_strike 4 (some .int) 2 := ⟨q640, q638, q639, q3, by decide +kernel, by decide +kernel, by decide +kernel⟩
abbrev rmX6_checkUrgent : Room := { frames := 6, cells := 0, slots := 0, locals := 140 }
theorem msX6_checkUrgent : Ms yX6_checkUrgent cX6_checkUrgent 3 (some .int) 0 := ⟨q239, q237, q238, q3, by decide +kernel, by decide +kernel, by decide +kernel⟩
abbrev rmX6_trust : Room := { frames := 4, cells := 0, slots := 0, locals := 93 }
theorem msX6_trust : Ms yX6_trust cX6_trust 4 (some .int) 2 := ⟨q632, q630, q631, q3, by decide +kernel, by decide +kernel, by decide +kernel⟩
abbrev rmX6_set : Room := { frames := 4, cells := 0, slots := 0, locals := 93 }
theorem msX6_set : Ms yX6_set cX6_set 4 (some .int) 2 := ⟨q328, q326, q327, q3, by decide +kernel, by decide +kernel, by decide +kernel⟩
abbrev rmX6_tellDeath : Room := { frames := 4, cells := 0, slots := 0, locals := 93 }
theorem msX6_tellDeath : Ms yX6_tellDeath cX6_tellDeath 5 (some .int) 2 := ⟨q611, q609, q610, q3, by decide +kernel, by decide +kernel, by decide +kernel⟩
abbrev rmX6_decide : Room := { frames := 4, cells := 0, slots := 0, locals := 93 }
theorem msX6_decide : Ms yX6_decide cX6_decide 4 (some .int) 2 := ⟨q627, q625, q626, q3, by decide +kernel, by decide +kernel, by decide +kernel⟩
abbrev rmX6_print : Room := { frames := 6, cells := 0, slots := 0, locals := 138 }
theorem msX6_print : Ms yX6_print cX6_print 3 (some .int) 0 := ⟨q566, q564, q565, q3, by decide +kernel, by decide +kernel, by decide +kernel⟩
abbrev rmX6_undo : Room := { frames := 4, cells := 0, slots := 0, locals := 93 }
theorem msX6_undo : Ms yX6_undo cX6_undo 1 (some .int) 0 := ⟨q342, q340, q341, q3, by decide +kernel, by decide +kernel, by decide +kernel⟩
abbrev rmX6_keep : Room := { frames := 3, cells := 0, slots := 0, locals := 71 }
theorem msX6_keep : Ms yX6_keep cX6_keep 1 (some .int) 0 := ⟨q354, q352, q353, q3, by decide +kernel, by decide +kernel, by decide +kernel⟩
abbrev rmX6_restore : Room := { frames := 4, cells := 0, slots := 0, locals := 93 }
theorem msX6_restore : Ms yX6_restore cX6_restore 1 (some .int) 0 := ⟨q363, q361, q362, q3, by decide +kernel, by decide +kernel, by decide +kernel⟩
abbrev rmX6_person : Room := { frames := 5, cells := 0, slots := 0, locals := 115 }
theorem msX6_person : Ms yX6_person cX6_person 4 (some .int) 2 := ⟨q367, q365, q366, q3, by decide +kernel, by decide +kernel, by decide +kernel⟩
abbrev rmX6_fact : Room := { frames := 4, cells := 0, slots := 0, locals := 90 }
theorem msX6_fact : Ms yX6_fact cX6_fact 5 (some .int) 3 := ⟨q505, q503, q504, q3, by decide +kernel, by decide +kernel, by decide +kernel⟩
abbrev rmX6_worth : Room := { frames := 4, cells := 0, slots := 0, locals := 91 }
theorem msX6_worth : Ms yX6_worth cX6_worth 3 (some .float) 1 := ⟨q540, q538, q539, q3, by decide +kernel, by decide +kernel, by decide +kernel⟩
abbrev rmX6_urgent : Room := { frames := 6, cells := 0, slots := 0, locals := 138 }
theorem msX6_urgent : Ms yX6_urgent cX6_urgent 2 (some .int) 1 := ⟨q549, q547, q548, q3, by decide +kernel, by decide +kernel, by decide +kernel⟩
abbrev rmX6_page : Room := { frames := 6, cells := 0, slots := 0, locals := 138 }
theorem msX6_page : Ms yX6_page cX6_page 2 (some .int) 1 := ⟨q414, q412, q413, q3, by decide +kernel, by decide +kernel, by decide +kernel⟩
abbrev rmX6_source : Room := { frames := 5, cells := 0, slots := 0, locals := 115 }
theorem msX6_source : Ms yX6_source cX6_source 3 (some .int) 2 := ⟨q519, q517, q518, q3, by decide +kernel, by decide +kernel, by decide +kernel⟩
abbrev rmX6_staleIn : Room := { frames := 5, cells := 0, slots := 0, locals := 117 }
theorem msX6_staleIn : Ms yX6_staleIn cX6_staleIn 2 (some .int) 1 := ⟨q457, q455, q456, q3, by decide +kernel, by decide +kernel, by decide +kernel⟩
abbrev rmX6_count : Room := { frames := 6, cells := 0, slots := 0, locals := 138 }
theorem msX6_count : Ms yX6_count cX6_count 2 (some .int) 1 := ⟨q465, q463, q464, q3, by decide +kernel, by decide +kernel, by decide +kernel⟩
abbrev rmX6_isWithin : Room := { frames := 0, cells := 0, slots := 0, locals := 0 }
theorem msX6_isWithin : Mt yX6_isWithin cX6_isWithin 3 (some .boolean) 3 := ⟨q194, q193, q3, by decide +kernel, by decide +kernel, by decide +kernel⟩
abbrev rmX6_isSource : Room := { frames := 0, cells := 0, slots := 0, locals := 0 }
theorem msX6_isSource : Mt yX6_isSource cX6_isSource 1 (some .boolean) 1 := ⟨q282, q281, q3, by decide +kernel, by decide +kernel, by decide +kernel⟩
abbrev rmX6_isSetting : Room := { frames := 0, cells := 0, slots := 0, locals := 0 }
theorem msX6_isSetting : Mt yX6_isSetting cX6_isSetting 1 (some .boolean) 1 := ⟨q295, q294, q3, by decide +kernel, by decide +kernel, by decide +kernel⟩
abbrev rmX6_bitsOf : Room := { frames := 0, cells := 0, slots := 0, locals := 0 }
theorem msX6_bitsOf : Mt yX6_bitsOf cX6_bitsOf 3 (some .int) 1 := ⟨q514, q513, q3, by decide +kernel, by decide +kernel, by decide +kernel⟩
abbrev rmJ6_bitCount_0f7a4 : Room := { frames := 0, cells := 0, slots := 0, locals := 0 }
theorem msJ6_bitCount_0f7a4 : Mt yJ6_bitCount_0f7a4 cJ6_bitCount_0f7a4 1 (some .int) 1 := ⟨q392, q391, q11, by decide +kernel, by decide +kernel, by decide +kernel⟩
abbrev rmL_cell : Room := { frames := 0, cells := 0, slots := 0, locals := 0 }
theorem msL_cell : Mt yL_cell cL_cell 2 (some .int) 2 := ⟨q493, q492, q2, by decide +kernel, by decide +kernel, by decide +kernel⟩
abbrev rmL_isLife : Room := { frames := 7, cells := 0, slots := 0, locals := 159 }
theorem msL_isLife : Mt yL_isLife cL_isLife 11 (some .boolean) 2 := ⟨q501, q500, q2, by decide +kernel, by decide +kernel, by decide +kernel⟩
abbrev rmL_isAll : Room := { frames := 8, cells := 0, slots := 0, locals := 189 }
theorem msL_isAll : Mt yL_isAll cL_isAll 9 (some .boolean) 1 := ⟨q498, q497, q2, by decide +kernel, by decide +kernel, by decide +kernel⟩
abbrev rmL_isPage : Room := { frames := 7, cells := 0, slots := 0, locals := 159 }
theorem msL_isPage : Mt yL_isPage cL_isPage 8 (some .boolean) 1 := ⟨q559, q558, q2, by decide +kernel, by decide +kernel, by decide +kernel⟩
abbrev rmL_tells : Room := { frames := 7, cells := 0, slots := 0, locals := 159 }
theorem msL_tells : Mt yL_tells cL_tells 5 (some .boolean) 3 := ⟨q607, q606, q2, by decide +kernel, by decide +kernel, by decide +kernel⟩
abbrev rmL_passes : Room := { frames := 7, cells := 0, slots := 0, locals := 160 }
theorem msL_passes : Mt yL_passes cL_passes 5 (some .boolean) 1 := ⟨q562, q561, q2, by decide +kernel, by decide +kernel, by decide +kernel⟩
abbrev rmL_acts : Room := { frames := 8, cells := 0, slots := 0, locals := 184 }
theorem msL_acts : Mt yL_acts cL_acts 19 (some .boolean) 2 := ⟨q591, q590, q2, by decide +kernel, by decide +kernel, by decide +kernel⟩
