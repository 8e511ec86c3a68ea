def F_Points : u_T := fun k => match k with
  | 0 => ("CarrierPaths$Points", "size", "I", true)
  | 1 => ("CarrierPaths$Points", "rooms", "[I", true)
  | _ => ("CarrierPaths$Points", "chargers", "[Z", true)
def ty_Points : Nat → FieldType := fun k => match k with
  | 0 => .int
  | 1 => .array .int
  | _ => .array .boolean
theorem nm_Points : ∀ a, a < 3 → ∀ b, b < 3 → a ≠ b → (F_Points a).2.1 ≠ (F_Points b).2.1 := by decide +kernel
theorem ty_Points_ok : ∀ k, k < 3 → parseFieldDescriptor (F_Points k).2.2.1 = some (ty_Points k) := by decide +kernel

def F_Roads : u_T := fun k => match k with
  | 0 => ("CarrierPaths$Roads", "points", "I", true)
  | 1 => ("CarrierPaths$Roads", "beginnings", "[I", true)
  | 2 => ("CarrierPaths$Roads", "ends", "[I", true)
  | 3 => ("CarrierPaths$Roads", "times", "[I", true)
  | 4 => ("CarrierPaths$Roads", "closed", "[Z", true)
  | 5 => ("CarrierPaths$Roads", "leastTimes", "[I", true)
  | _ => ("CarrierPaths$Roads", "size", "I", false)
def ty_Roads : Nat → FieldType := fun k => match k with
  | 0 => .int
  | 1 => .array .int
  | 2 => .array .int
  | 3 => .array .int
  | 4 => .array .boolean
  | 5 => .array .int
  | _ => .int
theorem nm_Roads : ∀ a, a < 7 → ∀ b, b < 7 → a ≠ b → (F_Roads a).2.1 ≠ (F_Roads b).2.1 := by decide +kernel
theorem ty_Roads_ok : ∀ k, k < 7 → parseFieldDescriptor (F_Roads k).2.2.1 = some (ty_Roads k) := by decide +kernel

def F_Rings : u_T := fun k => match k with
  | 0 => ("CarrierPaths$Rings", "sets", "[I", true)
  | _ => ("CarrierPaths$Rings", "size", "I", false)
def ty_Rings : Nat → FieldType := fun k => match k with
  | 0 => .array .int
  | _ => .int
theorem nm_Rings : ∀ a, a < 2 → ∀ b, b < 2 → a ≠ b → (F_Rings a).2.1 ≠ (F_Rings b).2.1 := by decide +kernel
theorem ty_Rings_ok : ∀ k, k < 2 → parseFieldDescriptor (F_Rings k).2.2.1 = some (ty_Rings k) := by decide +kernel

def F_Fleet : u_T := fun k => match k with
  | 0 => ("CarrierPaths$Fleet", "at", "[I", true)
  | 1 => ("CarrierPaths$Fleet", "on", "[I", true)
  | 2 => ("CarrierPaths$Fleet", "arrivals", "[I", true)
  | 3 => ("CarrierPaths$Fleet", "holds", "[I", true)
  | 4 => ("CarrierPaths$Fleet", "charges", "[I", true)
  | 5 => ("CarrierPaths$Fleet", "endedJobs", "[I", true)
  | 6 => ("CarrierPaths$Fleet", "emptyTimes", "[I", true)
  | _ => ("CarrierPaths$Fleet", "size", "I", false)
def ty_Fleet : Nat → FieldType := fun k => match k with
  | 0 => .array .int
  | 1 => .array .int
  | 2 => .array .int
  | 3 => .array .int
  | 4 => .array .int
  | 5 => .array .int
  | 6 => .array .int
  | _ => .int
theorem nm_Fleet : ∀ a, a < 8 → ∀ b, b < 8 → a ≠ b → (F_Fleet a).2.1 ≠ (F_Fleet b).2.1 := by decide +kernel
theorem ty_Fleet_ok : ∀ k, k < 8 → parseFieldDescriptor (F_Fleet k).2.2.1 = some (ty_Fleet k) := by decide +kernel

def F_Jobs : u_T := fun k => match k with
  | 0 => ("CarrierPaths$Jobs", "froms", "[I", true)
  | 1 => ("CarrierPaths$Jobs", "tos", "[I", true)
  | 2 => ("CarrierPaths$Jobs", "states", "[I", true)
  | 3 => ("CarrierPaths$Jobs", "holders", "[I", true)
  | _ => ("CarrierPaths$Jobs", "size", "I", false)
def ty_Jobs : Nat → FieldType := fun k => match k with
  | 0 => .array .int
  | 1 => .array .int
  | 2 => .array .int
  | 3 => .array .int
  | _ => .int
theorem nm_Jobs : ∀ a, a < 5 → ∀ b, b < 5 → a ≠ b → (F_Jobs a).2.1 ≠ (F_Jobs b).2.1 := by decide +kernel
theorem ty_Jobs_ok : ∀ k, k < 5 → parseFieldDescriptor (F_Jobs k).2.2.1 = some (ty_Jobs k) := by decide +kernel

def F_Choice : u_T := fun k => match k with
  | 0 => ("CarrierPaths$Choice", "worths", "[I", true)
  | 1 => ("CarrierPaths$Choice", "best", "[I", true)
  | 2 => ("CarrierPaths$Choice", "chosen", "[I", true)
  | 3 => ("CarrierPaths$Choice", "jobCount", "I", false)
  | 4 => ("CarrierPaths$Choice", "carrierCount", "I", false)
  | _ => ("CarrierPaths$Choice", "able", "I", false)
def ty_Choice : Nat → FieldType := fun k => match k with
  | 0 => .array .int
  | 1 => .array .int
  | 2 => .array .int
  | 3 => .int
  | 4 => .int
  | _ => .int
theorem nm_Choice : ∀ a, a < 6 → ∀ b, b < 6 → a ≠ b → (F_Choice a).2.1 ≠ (F_Choice b).2.1 := by decide +kernel
theorem ty_Choice_ok : ∀ k, k < 6 → parseFieldDescriptor (F_Choice k).2.2.1 = some (ty_Choice k) := by decide +kernel

def F_Model : u_T := fun k => match k with
  | 0 => ("CarrierPathsModel", "thrown", "I", false)
  | 1 => ("CarrierPathsModel", "points", "I", true)
  | 2 => ("CarrierPathsModel", "places", "[I", true)
  | 3 => ("CarrierPathsModel", "charger", "[Z", true)
  | 4 => ("CarrierPathsModel", "pieces", "I", false)
  | 5 => ("CarrierPathsModel", "first", "[I", true)
  | 6 => ("CarrierPathsModel", "second", "[I", true)
  | 7 => ("CarrierPathsModel", "time", "[I", true)
  | 8 => ("CarrierPathsModel", "closed", "[Z", true)
  | 9 => ("CarrierPathsModel", "rings", "I", false)
  | 10 => ("CarrierPathsModel", "ring", "[I", true)
  | 11 => ("CarrierPathsModel", "carriers", "I", false)
  | 12 => ("CarrierPathsModel", "at", "[I", true)
  | 13 => ("CarrierPathsModel", "on", "[I", true)
  | 14 => ("CarrierPathsModel", "until", "[I", true)
  | 15 => ("CarrierPathsModel", "jobOf", "[I", true)
  | 16 => ("CarrierPathsModel", "charge", "[I", true)
  | 17 => ("CarrierPathsModel", "done", "[I", true)
  | 18 => ("CarrierPathsModel", "empty", "[I", true)
  | 19 => ("CarrierPathsModel", "jobs", "I", false)
  | 20 => ("CarrierPathsModel", "from", "[I", true)
  | 21 => ("CarrierPathsModel", "to", "[I", true)
  | 22 => ("CarrierPathsModel", "state", "[I", true)
  | 23 => ("CarrierPathsModel", "carrierOf", "[I", true)
  | 24 => ("CarrierPathsModel", "now", "I", false)
  | 25 => ("CarrierPathsModel", "far", "[I", true)
  | _ => ("CarrierPathsModel", "best", "[I", true)
def ty_Model : Nat → FieldType := fun k => match k with
  | 0 => .int
  | 1 => .int
  | 2 => .array .int
  | 3 => .array .boolean
  | 4 => .int
  | 5 => .array .int
  | 6 => .array .int
  | 7 => .array .int
  | 8 => .array .boolean
  | 9 => .int
  | 10 => .array .int
  | 11 => .int
  | 12 => .array .int
  | 13 => .array .int
  | 14 => .array .int
  | 15 => .array .int
  | 16 => .array .int
  | 17 => .array .int
  | 18 => .array .int
  | 19 => .int
  | 20 => .array .int
  | 21 => .array .int
  | 22 => .array .int
  | 23 => .array .int
  | 24 => .int
  | 25 => .array .int
  | _ => .array .int
theorem nm_Model : ∀ a, a < 27 → ∀ b, b < 27 → a ≠ b → (F_Model a).2.1 ≠ (F_Model b).2.1 := by decide +kernel
theorem ty_Model_ok : ∀ k, k < 27 → parseFieldDescriptor (F_Model k).2.2.1 = some (ty_Model k) := by decide +kernel

def F_Face : u_T := fun k => match k with
  | 0 => ("CarrierPaths", "points", "LCarrierPaths$Points;", true)
  | 1 => ("CarrierPaths", "roads", "LCarrierPaths$Roads;", true)
  | 2 => ("CarrierPaths", "rings", "LCarrierPaths$Rings;", true)
  | 3 => ("CarrierPaths", "fleet", "LCarrierPaths$Fleet;", true)
  | 4 => ("CarrierPaths", "jobs", "LCarrierPaths$Jobs;", true)
  | 5 => ("CarrierPaths", "choice", "LCarrierPaths$Choice;", true)
  | _ => ("CarrierPaths", "now", "I", false)
def ty_Face : Nat → FieldType := fun k => match k with
  | 0 => .object "CarrierPaths$Points"
  | 1 => .object "CarrierPaths$Roads"
  | 2 => .object "CarrierPaths$Rings"
  | 3 => .object "CarrierPaths$Fleet"
  | 4 => .object "CarrierPaths$Jobs"
  | 5 => .object "CarrierPaths$Choice"
  | _ => .int
theorem nm_Face : ∀ a, a < 7 → ∀ b, b < 7 → a ≠ b → (F_Face a).2.1 ≠ (F_Face b).2.1 := by decide +kernel
theorem ty_Face_ok : ∀ k, k < 7 → parseFieldDescriptor (F_Face k).2.2.1 = some (ty_Face k) := by decide +kernel

abbrev classes : List vw_C := [("CarrierPaths$Choice", F_Choice, 6), ("CarrierPaths$Fleet", F_Fleet, 8), ("CarrierPaths$Jobs", F_Jobs, 5), ("CarrierPaths$Points", F_Points, 3), ("CarrierPaths$Rings", F_Rings, 2), ("CarrierPaths$Roads", F_Roads, 7), ("CarrierPaths", F_Face, 7), ("CarrierPathsModel", F_Model, 27)]
abbrev y_Points_init : MethodName := ⟨"CarrierPaths$Points", "<init>", "(I)V"⟩
abbrev y_Points_size : MethodName := ⟨"CarrierPaths$Points", "size", "()I"⟩
abbrev y_Points_has : MethodName := ⟨"CarrierPaths$Points", "has", "(I)Z"⟩
abbrev y_Points_areTwo : MethodName := ⟨"CarrierPaths$Points", "areTwo", "(II)Z"⟩
abbrev y_Points_asBits : MethodName := ⟨"CarrierPaths$Points", "asBits", "()I"⟩
abbrev y_Points_placesOf : MethodName := ⟨"CarrierPaths$Points", "placesOf", "(I)I"⟩
abbrev y_Points_setPlaces : MethodName := ⟨"CarrierPaths$Points", "setPlaces", "(II)V"⟩
abbrev y_Points_hasCharger : MethodName := ⟨"CarrierPaths$Points", "hasCharger", "(I)Z"⟩
abbrev y_Points_setCharger : MethodName := ⟨"CarrierPaths$Points", "setCharger", "(IZ)V"⟩
abbrev y_Roads_init : MethodName := ⟨"CarrierPaths$Roads", "<init>", "(I)V"⟩
abbrev y_Roads_size : MethodName := ⟨"CarrierPaths$Roads", "size", "()I"⟩
abbrev y_Roads_has : MethodName := ⟨"CarrierPaths$Roads", "has", "(I)Z"⟩
abbrev y_Roads_add : MethodName := ⟨"CarrierPaths$Roads", "add", "(III)I"⟩
abbrev y_Roads_beginningOf : MethodName := ⟨"CarrierPaths$Roads", "beginningOf", "(I)I"⟩
abbrev y_Roads_endOf : MethodName := ⟨"CarrierPaths$Roads", "endOf", "(I)I"⟩
abbrev y_Roads_timeOf : MethodName := ⟨"CarrierPaths$Roads", "timeOf", "(I)I"⟩
abbrev y_Roads_isClosed : MethodName := ⟨"CarrierPaths$Roads", "isClosed", "(I)Z"⟩
abbrev y_Roads_setClosed : MethodName := ⟨"CarrierPaths$Roads", "setClosed", "(IZ)V"⟩
abbrev y_Roads_hasWay : MethodName := ⟨"CarrierPaths$Roads", "hasWay", "(II)Z"⟩
abbrev y_Roads_leastTime : MethodName := ⟨"CarrierPaths$Roads", "leastTime", "(II)I"⟩
abbrev y_Roads_firstPiece : MethodName := ⟨"CarrierPaths$Roads", "firstPiece", "(II)I"⟩
abbrev y_Roads_piecesOnWay : MethodName := ⟨"CarrierPaths$Roads", "piecesOnWay", "(II)I"⟩
abbrev y_Roads_measureAnew : MethodName := ⟨"CarrierPaths$Roads", "measureAnew", "()V"⟩
abbrev y_Roads_forgetTimes : MethodName := ⟨"CarrierPaths$Roads", "forgetTimes", "()V"⟩
abbrev y_Roads_shortenBy : MethodName := ⟨"CarrierPaths$Roads", "shortenBy", "(I)V"⟩
abbrev y_Rings_init : MethodName := ⟨"CarrierPaths$Rings", "<init>", "()V"⟩
abbrev y_Rings_size : MethodName := ⟨"CarrierPaths$Rings", "size", "()I"⟩
abbrev y_Rings_has : MethodName := ⟨"CarrierPaths$Rings", "has", "(I)Z"⟩
abbrev y_Rings_add : MethodName := ⟨"CarrierPaths$Rings", "add", "(I)I"⟩
abbrev y_Rings_bitsOf : MethodName := ⟨"CarrierPaths$Rings", "bitsOf", "(I)I"⟩
abbrev y_Fleet_init : MethodName := ⟨"CarrierPaths$Fleet", "<init>", "()V"⟩
abbrev y_Fleet_size : MethodName := ⟨"CarrierPaths$Fleet", "size", "()I"⟩
abbrev y_Fleet_has : MethodName := ⟨"CarrierPaths$Fleet", "has", "(I)Z"⟩
abbrev y_Fleet_add : MethodName := ⟨"CarrierPaths$Fleet", "add", "(II)I"⟩
abbrev y_Fleet_pointOf : MethodName := ⟨"CarrierPaths$Fleet", "pointOf", "(I)I"⟩
abbrev y_Fleet_pieceOf : MethodName := ⟨"CarrierPaths$Fleet", "pieceOf", "(I)I"⟩
abbrev y_Fleet_arrivalOf : MethodName := ⟨"CarrierPaths$Fleet", "arrivalOf", "(I)I"⟩
abbrev y_Fleet_jobOf : MethodName := ⟨"CarrierPaths$Fleet", "jobOf", "(I)I"⟩
abbrev y_Fleet_chargeOf : MethodName := ⟨"CarrierPaths$Fleet", "chargeOf", "(I)I"⟩
abbrev y_Fleet_endedBy : MethodName := ⟨"CarrierPaths$Fleet", "endedBy", "(I)I"⟩
abbrev y_Fleet_emptyTimeOf : MethodName := ⟨"CarrierPaths$Fleet", "emptyTimeOf", "(I)I"⟩
abbrev y_Fleet_isOnPiece : MethodName := ⟨"CarrierPaths$Fleet", "isOnPiece", "(I)Z"⟩
abbrev y_Fleet_isIdle : MethodName := ⟨"CarrierPaths$Fleet", "isIdle", "(I)Z"⟩
abbrev y_Fleet_isTaken : MethodName := ⟨"CarrierPaths$Fleet", "isTaken", "(I)Z"⟩
abbrev y_Fleet_boundFor : MethodName := ⟨"CarrierPaths$Fleet", "boundFor", "(I)I"⟩
abbrev y_Fleet_onPieces : MethodName := ⟨"CarrierPaths$Fleet", "onPieces", "()I"⟩
abbrev y_Fleet_takeJob : MethodName := ⟨"CarrierPaths$Fleet", "takeJob", "(II)V"⟩
abbrev y_Fleet_endJob : MethodName := ⟨"CarrierPaths$Fleet", "endJob", "(I)V"⟩
abbrev y_Fleet_chargeUp : MethodName := ⟨"CarrierPaths$Fleet", "chargeUp", "(I)V"⟩
abbrev y_Fleet_enter : MethodName := ⟨"CarrierPaths$Fleet", "enter", "(IIIII)V"⟩
abbrev y_Fleet_addEmptyTime : MethodName := ⟨"CarrierPaths$Fleet", "addEmptyTime", "(II)V"⟩
abbrev y_Fleet_arrive : MethodName := ⟨"CarrierPaths$Fleet", "arrive", "(I)I"⟩
abbrev y_Jobs_init : MethodName := ⟨"CarrierPaths$Jobs", "<init>", "()V"⟩
abbrev y_Jobs_size : MethodName := ⟨"CarrierPaths$Jobs", "size", "()I"⟩
abbrev y_Jobs_has : MethodName := ⟨"CarrierPaths$Jobs", "has", "(I)Z"⟩
abbrev y_Jobs_add : MethodName := ⟨"CarrierPaths$Jobs", "add", "(II)I"⟩
abbrev y_Jobs_fromOf : MethodName := ⟨"CarrierPaths$Jobs", "fromOf", "(I)I"⟩
abbrev y_Jobs_toOf : MethodName := ⟨"CarrierPaths$Jobs", "toOf", "(I)I"⟩
abbrev y_Jobs_stateOf : MethodName := ⟨"CarrierPaths$Jobs", "stateOf", "(I)I"⟩
abbrev y_Jobs_carrierOf : MethodName := ⟨"CarrierPaths$Jobs", "carrierOf", "(I)I"⟩
abbrev y_Jobs_isWaiting : MethodName := ⟨"CarrierPaths$Jobs", "isWaiting", "(I)Z"⟩
abbrev y_Jobs_isLoaded : MethodName := ⟨"CarrierPaths$Jobs", "isLoaded", "(I)Z"⟩
abbrev y_Jobs_goalOf : MethodName := ⟨"CarrierPaths$Jobs", "goalOf", "(I)I"⟩
abbrev y_Jobs_ended : MethodName := ⟨"CarrierPaths$Jobs", "ended", "()I"⟩
abbrev y_Jobs_setState : MethodName := ⟨"CarrierPaths$Jobs", "setState", "(II)V"⟩
abbrev y_Jobs_give : MethodName := ⟨"CarrierPaths$Jobs", "give", "(II)V"⟩
abbrev y_Choice_init : MethodName := ⟨"CarrierPaths$Choice", "<init>", "()V"⟩
abbrev y_Choice_begin : MethodName := ⟨"CarrierPaths$Choice", "begin", "(II)V"⟩
abbrev y_Choice_offer : MethodName := ⟨"CarrierPaths$Choice", "offer", "(III)V"⟩
abbrev y_Choice_settle : MethodName := ⟨"CarrierPaths$Choice", "settle", "()V"⟩
abbrev y_Choice_carrierFor : MethodName := ⟨"CarrierPaths$Choice", "carrierFor", "(I)I"⟩
abbrev y_Choice_findBest : MethodName := ⟨"CarrierPaths$Choice", "findBest", "(I)V"⟩
abbrev y_Choice_mostWorth : MethodName := ⟨"CarrierPaths$Choice", "mostWorth", "(II)I"⟩
abbrev y_Choice_leastCarrier : MethodName := ⟨"CarrierPaths$Choice", "leastCarrier", "(II)I"⟩
abbrev y_Choice_canTake : MethodName := ⟨"CarrierPaths$Choice", "canTake", "(III)Z"⟩
abbrev y_Choice_worthWith : MethodName := ⟨"CarrierPaths$Choice", "worthWith", "(III)I"⟩
abbrev y_Choice_worthOf : MethodName := ⟨"CarrierPaths$Choice", "worthOf", "(II)I"⟩
abbrev y_Choice_bestFrom : MethodName := ⟨"CarrierPaths$Choice", "bestFrom", "(II)I"⟩
abbrev y_Model_init : MethodName := ⟨"CarrierPathsModel", "<init>", "(I)V"⟩
abbrev y_Model_thrown : MethodName := ⟨"CarrierPathsModel", "thrown", "()I"⟩
abbrev y_Model_fails : MethodName := ⟨"CarrierPathsModel", "fails", "(I)I"⟩
abbrev y_Model_in : MethodName := ⟨"CarrierPathsModel", "in", "(III)Z"⟩
abbrev y_Model_isPoint : MethodName := ⟨"CarrierPathsModel", "isPoint", "(I)Z"⟩
abbrev y_Model_isCarrier : MethodName := ⟨"CarrierPathsModel", "isCarrier", "(I)Z"⟩
abbrev y_Model_timesTo : MethodName := ⟨"CarrierPathsModel", "timesTo", "(I)V"⟩
abbrev y_Model_pieceFrom : MethodName := ⟨"CarrierPathsModel", "pieceFrom", "(I)I"⟩
abbrev y_Model_timeTo : MethodName := ⟨"CarrierPathsModel", "timeTo", "(II)I"⟩
abbrev y_Model_way : MethodName := ⟨"CarrierPathsModel", "way", "(III)I"⟩
abbrev y_Model_toCharger : MethodName := ⟨"CarrierPathsModel", "toCharger", "(I)I"⟩
abbrev y_Model_standing : MethodName := ⟨"CarrierPathsModel", "standing", "(I)I"⟩
abbrev y_Model_freeIn : MethodName := ⟨"CarrierPathsModel", "freeIn", "(I)I"⟩
abbrev y_Model_piece : MethodName := ⟨"CarrierPathsModel", "piece", "(III)I"⟩
abbrev y_Model_places : MethodName := ⟨"CarrierPathsModel", "places", "(II)Z"⟩
abbrev y_Model_charger : MethodName := ⟨"CarrierPathsModel", "charger", "(IZ)Z"⟩
abbrev y_Model_ring : MethodName := ⟨"CarrierPathsModel", "ring", "(I)I"⟩
abbrev y_Model_carrier : MethodName := ⟨"CarrierPathsModel", "carrier", "(II)I"⟩
abbrev y_Model_job : MethodName := ⟨"CarrierPathsModel", "job", "(II)I"⟩
abbrev y_Model_worth : MethodName := ⟨"CarrierPathsModel", "worth", "(II)I"⟩
abbrev y_Model_reckon : MethodName := ⟨"CarrierPathsModel", "reckon", "()V"⟩
abbrev y_Model_assign : MethodName := ⟨"CarrierPathsModel", "assign", "()I"⟩
abbrev y_Model_isBarred : MethodName := ⟨"CarrierPathsModel", "isBarred", "(I)Z"⟩
abbrev y_Model_isTaken : MethodName := ⟨"CarrierPathsModel", "isTaken", "(I)Z"⟩
abbrev y_Model_goesOn : MethodName := ⟨"CarrierPathsModel", "goesOn", "(II)I"⟩
abbrev y_Model_step : MethodName := ⟨"CarrierPathsModel", "step", "(I)I"⟩
abbrev y_Model_tick : MethodName := ⟨"CarrierPathsModel", "tick", "(I)I"⟩
abbrev y_Model_close : MethodName := ⟨"CarrierPathsModel", "close", "(IZ)Z"⟩
abbrev y_Model_charge : MethodName := ⟨"CarrierPathsModel", "charge", "(I)Z"⟩
abbrev y_Model_look : MethodName := ⟨"CarrierPathsModel", "look", "(II)I"⟩
abbrev y_Model_of : MethodName := ⟨"CarrierPathsModel", "of", "(II)I"⟩
abbrev y_Model_ofPoint : MethodName := ⟨"CarrierPathsModel", "ofPoint", "(I)I"⟩
abbrev y_Model_count : MethodName := ⟨"CarrierPathsModel", "count", "(I)I"⟩
abbrev y_Face_init : MethodName := ⟨"CarrierPaths", "<init>", "(I)V"⟩
abbrev y_Face_piece : MethodName := ⟨"CarrierPaths", "piece", "(III)I"⟩
abbrev y_Face_places : MethodName := ⟨"CarrierPaths", "places", "(II)Z"⟩
abbrev y_Face_charger : MethodName := ⟨"CarrierPaths", "charger", "(IZ)Z"⟩
abbrev y_Face_ring : MethodName := ⟨"CarrierPaths", "ring", "(I)I"⟩
abbrev y_Face_carrier : MethodName := ⟨"CarrierPaths", "carrier", "(II)I"⟩
abbrev y_Face_job : MethodName := ⟨"CarrierPaths", "job", "(II)I"⟩
abbrev y_Face_assign : MethodName := ⟨"CarrierPaths", "assign", "()I"⟩
abbrev y_Face_step : MethodName := ⟨"CarrierPaths", "step", "(I)I"⟩
abbrev y_Face_tick : MethodName := ⟨"CarrierPaths", "tick", "(I)I"⟩
abbrev y_Face_close : MethodName := ⟨"CarrierPaths", "close", "(IZ)Z"⟩
abbrev y_Face_charge : MethodName := ⟨"CarrierPaths", "charge", "(I)Z"⟩
abbrev y_Face_way : MethodName := ⟨"CarrierPaths", "way", "(III)I"⟩
abbrev y_Face_look : MethodName := ⟨"CarrierPaths", "look", "(II)I"⟩
abbrev y_Face_of : MethodName := ⟨"CarrierPaths", "of", "(II)I"⟩
abbrev y_Face_count : MethodName := ⟨"CarrierPaths", "count", "(I)I"⟩
abbrev y_Face_countInAll : MethodName := ⟨"CarrierPaths", "countInAll", "(I)I"⟩
abbrev y_Face_asNumber : MethodName := ⟨"CarrierPaths", "asNumber", "(Z)I"⟩
abbrev y_Face_offerJobs : MethodName := ⟨"CarrierPaths", "offerJobs", "()V"⟩
abbrev y_Face_giveOut : MethodName := ⟨"CarrierPaths", "giveOut", "()I"⟩
abbrev y_Face_emptyTravel : MethodName := ⟨"CarrierPaths", "emptyTravel", "(II)I"⟩
abbrev y_Face_load : MethodName := ⟨"CarrierPaths", "load", "(I)I"⟩
abbrev y_Face_end : MethodName := ⟨"CarrierPaths", "end", "(II)I"⟩
abbrev y_Face_goOn : MethodName := ⟨"CarrierPaths", "goOn", "(II)I"⟩
abbrev y_Face_isFull : MethodName := ⟨"CarrierPaths", "isFull", "(I)Z"⟩
abbrev y_Face_freePlaces : MethodName := ⟨"CarrierPaths", "freePlaces", "(I)I"⟩
abbrev y_Face_isIn : MethodName := ⟨"CarrierPaths", "isIn", "(II)Z"⟩
abbrev y_Face_fillsRing : MethodName := ⟨"CarrierPaths", "fillsRing", "(II)Z"⟩
abbrev y_Face_timeToCharger : MethodName := ⟨"CarrierPaths", "timeToCharger", "(I)I"⟩
