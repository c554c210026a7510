/-! getters of setters, the reference's state -/
theorem mgs_thrown_thrown (σ : mS) (x : Int32) : m_thrown (m_s_thrown σ x) = x := rfl
theorem mgs_limit_thrown (σ : mS) (x : Int32) : m_limit (m_s_thrown σ x) = m_limit σ := rfl
theorem mgs_root_thrown (σ : mS) (x : Int32) : m_root (m_s_thrown σ x) = m_root σ := rfl
theorem mgs_objects_thrown (σ : mS) (x : Int32) : m_objects (m_s_thrown σ x) = m_objects σ := rfl
theorem mgs_kind_thrown (σ : mS) (x : Int32) : m_kind (m_s_thrown σ x) = m_kind σ := rfl
theorem mgs_links_thrown (σ : mS) (x : Int32) : m_links (m_s_thrown σ x) = m_links σ := rfl
theorem mgs_values_thrown (σ : mS) (x : Int32) : m_values (m_s_thrown σ x) = m_values σ := rfl
theorem mgs_plain_thrown (σ : mS) (x : Int32) : m_plain (m_s_thrown σ x) = m_plain σ := rfl
theorem mgs_link_thrown (σ : mS) (x : Int32) : m_link (m_s_thrown σ x) = m_link σ := rfl
theorem mgs_number_thrown (σ : mS) (x : Int32) : m_number (m_s_thrown σ x) = m_number σ := rfl
theorem mgs_refers_thrown (σ : mS) (x : Int32) : m_refers (m_s_thrown σ x) = m_refers σ := rfl
theorem mgs_word_thrown (σ : mS) (x : Int32) : m_word (m_s_thrown σ x) = m_word σ := rfl
theorem mgs_length_thrown (σ : mS) (x : Int32) : m_length (m_s_thrown σ x) = m_length σ := rfl
theorem mgs_madeOf_thrown (σ : mS) (x : Int32) : m_madeOf (m_s_thrown σ x) = m_madeOf σ := rfl
theorem mgs_a_thrown (σ : mS) (x : Int32) : m_a (m_s_thrown σ x) = m_a σ := rfl
theorem mgs_b_thrown (σ : mS) (x : Int32) : m_b (m_s_thrown σ x) = m_b σ := rfl
theorem mgs_units_thrown (σ : mS) (x : Int32) : m_units (m_s_thrown σ x) = m_units σ := rfl
theorem mgs_spread_thrown (σ : mS) (x : Int32) : m_spread (m_s_thrown σ x) = m_spread σ := rfl
theorem mgs_there_thrown (σ : mS) (x : Int32) : m_there (m_s_thrown σ x) = m_there σ := rfl
theorem mgs_waiting_thrown (σ : mS) (x : Int32) : m_waiting (m_s_thrown σ x) = m_waiting σ := rfl
theorem mgs_wait_thrown (σ : mS) (x : Int32) : m_wait (m_s_thrown σ x) = m_wait σ := rfl
theorem mgs_thrown_limit (σ : mS) (x : Int32) : m_thrown (m_s_limit σ x) = m_thrown σ := rfl
theorem mgs_limit_limit (σ : mS) (x : Int32) : m_limit (m_s_limit σ x) = x := rfl
theorem mgs_root_limit (σ : mS) (x : Int32) : m_root (m_s_limit σ x) = m_root σ := rfl
theorem mgs_objects_limit (σ : mS) (x : Int32) : m_objects (m_s_limit σ x) = m_objects σ := rfl
theorem mgs_kind_limit (σ : mS) (x : Int32) : m_kind (m_s_limit σ x) = m_kind σ := rfl
theorem mgs_links_limit (σ : mS) (x : Int32) : m_links (m_s_limit σ x) = m_links σ := rfl
theorem mgs_values_limit (σ : mS) (x : Int32) : m_values (m_s_limit σ x) = m_values σ := rfl
theorem mgs_plain_limit (σ : mS) (x : Int32) : m_plain (m_s_limit σ x) = m_plain σ := rfl
theorem mgs_link_limit (σ : mS) (x : Int32) : m_link (m_s_limit σ x) = m_link σ := rfl
theorem mgs_number_limit (σ : mS) (x : Int32) : m_number (m_s_limit σ x) = m_number σ := rfl
theorem mgs_refers_limit (σ : mS) (x : Int32) : m_refers (m_s_limit σ x) = m_refers σ := rfl
theorem mgs_word_limit (σ : mS) (x : Int32) : m_word (m_s_limit σ x) = m_word σ := rfl
theorem mgs_length_limit (σ : mS) (x : Int32) : m_length (m_s_limit σ x) = m_length σ := rfl
theorem mgs_madeOf_limit (σ : mS) (x : Int32) : m_madeOf (m_s_limit σ x) = m_madeOf σ := rfl
theorem mgs_a_limit (σ : mS) (x : Int32) : m_a (m_s_limit σ x) = m_a σ := rfl
theorem mgs_b_limit (σ : mS) (x : Int32) : m_b (m_s_limit σ x) = m_b σ := rfl
theorem mgs_units_limit (σ : mS) (x : Int32) : m_units (m_s_limit σ x) = m_units σ := rfl
theorem mgs_spread_limit (σ : mS) (x : Int32) : m_spread (m_s_limit σ x) = m_spread σ := rfl
theorem mgs_there_limit (σ : mS) (x : Int32) : m_there (m_s_limit σ x) = m_there σ := rfl
theorem mgs_waiting_limit (σ : mS) (x : Int32) : m_waiting (m_s_limit σ x) = m_waiting σ := rfl
theorem mgs_wait_limit (σ : mS) (x : Int32) : m_wait (m_s_limit σ x) = m_wait σ := rfl
theorem mgs_thrown_root (σ : mS) (x : Nat → Int32) : m_thrown (m_s_root σ x) = m_thrown σ := rfl
theorem mgs_limit_root (σ : mS) (x : Nat → Int32) : m_limit (m_s_root σ x) = m_limit σ := rfl
theorem mgs_root_root (σ : mS) (x : Nat → Int32) : m_root (m_s_root σ x) = x := rfl
theorem mgs_objects_root (σ : mS) (x : Nat → Int32) : m_objects (m_s_root σ x) = m_objects σ := rfl
theorem mgs_kind_root (σ : mS) (x : Nat → Int32) : m_kind (m_s_root σ x) = m_kind σ := rfl
theorem mgs_links_root (σ : mS) (x : Nat → Int32) : m_links (m_s_root σ x) = m_links σ := rfl
theorem mgs_values_root (σ : mS) (x : Nat → Int32) : m_values (m_s_root σ x) = m_values σ := rfl
theorem mgs_plain_root (σ : mS) (x : Nat → Int32) : m_plain (m_s_root σ x) = m_plain σ := rfl
theorem mgs_link_root (σ : mS) (x : Nat → Int32) : m_link (m_s_root σ x) = m_link σ := rfl
theorem mgs_number_root (σ : mS) (x : Nat → Int32) : m_number (m_s_root σ x) = m_number σ := rfl
theorem mgs_refers_root (σ : mS) (x : Nat → Int32) : m_refers (m_s_root σ x) = m_refers σ := rfl
theorem mgs_word_root (σ : mS) (x : Nat → Int32) : m_word (m_s_root σ x) = m_word σ := rfl
theorem mgs_length_root (σ : mS) (x : Nat → Int32) : m_length (m_s_root σ x) = m_length σ := rfl
theorem mgs_madeOf_root (σ : mS) (x : Nat → Int32) : m_madeOf (m_s_root σ x) = m_madeOf σ := rfl
theorem mgs_a_root (σ : mS) (x : Nat → Int32) : m_a (m_s_root σ x) = m_a σ := rfl
theorem mgs_b_root (σ : mS) (x : Nat → Int32) : m_b (m_s_root σ x) = m_b σ := rfl
theorem mgs_units_root (σ : mS) (x : Nat → Int32) : m_units (m_s_root σ x) = m_units σ := rfl
theorem mgs_spread_root (σ : mS) (x : Nat → Int32) : m_spread (m_s_root σ x) = m_spread σ := rfl
theorem mgs_there_root (σ : mS) (x : Nat → Int32) : m_there (m_s_root σ x) = m_there σ := rfl
theorem mgs_waiting_root (σ : mS) (x : Nat → Int32) : m_waiting (m_s_root σ x) = m_waiting σ := rfl
theorem mgs_wait_root (σ : mS) (x : Nat → Int32) : m_wait (m_s_root σ x) = m_wait σ := rfl
theorem mgs_thrown_objects (σ : mS) (x : Int32) : m_thrown (m_s_objects σ x) = m_thrown σ := rfl
theorem mgs_limit_objects (σ : mS) (x : Int32) : m_limit (m_s_objects σ x) = m_limit σ := rfl
theorem mgs_root_objects (σ : mS) (x : Int32) : m_root (m_s_objects σ x) = m_root σ := rfl
theorem mgs_objects_objects (σ : mS) (x : Int32) : m_objects (m_s_objects σ x) = x := rfl
theorem mgs_kind_objects (σ : mS) (x : Int32) : m_kind (m_s_objects σ x) = m_kind σ := rfl
theorem mgs_links_objects (σ : mS) (x : Int32) : m_links (m_s_objects σ x) = m_links σ := rfl
theorem mgs_values_objects (σ : mS) (x : Int32) : m_values (m_s_objects σ x) = m_values σ := rfl
theorem mgs_plain_objects (σ : mS) (x : Int32) : m_plain (m_s_objects σ x) = m_plain σ := rfl
theorem mgs_link_objects (σ : mS) (x : Int32) : m_link (m_s_objects σ x) = m_link σ := rfl
theorem mgs_number_objects (σ : mS) (x : Int32) : m_number (m_s_objects σ x) = m_number σ := rfl
theorem mgs_refers_objects (σ : mS) (x : Int32) : m_refers (m_s_objects σ x) = m_refers σ := rfl
theorem mgs_word_objects (σ : mS) (x : Int32) : m_word (m_s_objects σ x) = m_word σ := rfl
theorem mgs_length_objects (σ : mS) (x : Int32) : m_length (m_s_objects σ x) = m_length σ := rfl
theorem mgs_madeOf_objects (σ : mS) (x : Int32) : m_madeOf (m_s_objects σ x) = m_madeOf σ := rfl
theorem mgs_a_objects (σ : mS) (x : Int32) : m_a (m_s_objects σ x) = m_a σ := rfl
theorem mgs_b_objects (σ : mS) (x : Int32) : m_b (m_s_objects σ x) = m_b σ := rfl
theorem mgs_units_objects (σ : mS) (x : Int32) : m_units (m_s_objects σ x) = m_units σ := rfl
theorem mgs_spread_objects (σ : mS) (x : Int32) : m_spread (m_s_objects σ x) = m_spread σ := rfl
theorem mgs_there_objects (σ : mS) (x : Int32) : m_there (m_s_objects σ x) = m_there σ := rfl
theorem mgs_waiting_objects (σ : mS) (x : Int32) : m_waiting (m_s_objects σ x) = m_waiting σ := rfl
theorem mgs_wait_objects (σ : mS) (x : Int32) : m_wait (m_s_objects σ x) = m_wait σ := rfl
theorem mgs_thrown_kind (σ : mS) (x : Nat → Int32) : m_thrown (m_s_kind σ x) = m_thrown σ := rfl
theorem mgs_limit_kind (σ : mS) (x : Nat → Int32) : m_limit (m_s_kind σ x) = m_limit σ := rfl
theorem mgs_root_kind (σ : mS) (x : Nat → Int32) : m_root (m_s_kind σ x) = m_root σ := rfl
theorem mgs_objects_kind (σ : mS) (x : Nat → Int32) : m_objects (m_s_kind σ x) = m_objects σ := rfl
theorem mgs_kind_kind (σ : mS) (x : Nat → Int32) : m_kind (m_s_kind σ x) = x := rfl
theorem mgs_links_kind (σ : mS) (x : Nat → Int32) : m_links (m_s_kind σ x) = m_links σ := rfl
theorem mgs_values_kind (σ : mS) (x : Nat → Int32) : m_values (m_s_kind σ x) = m_values σ := rfl
theorem mgs_plain_kind (σ : mS) (x : Nat → Int32) : m_plain (m_s_kind σ x) = m_plain σ := rfl
theorem mgs_link_kind (σ : mS) (x : Nat → Int32) : m_link (m_s_kind σ x) = m_link σ := rfl
theorem mgs_number_kind (σ : mS) (x : Nat → Int32) : m_number (m_s_kind σ x) = m_number σ := rfl
theorem mgs_refers_kind (σ : mS) (x : Nat → Int32) : m_refers (m_s_kind σ x) = m_refers σ := rfl
theorem mgs_word_kind (σ : mS) (x : Nat → Int32) : m_word (m_s_kind σ x) = m_word σ := rfl
theorem mgs_length_kind (σ : mS) (x : Nat → Int32) : m_length (m_s_kind σ x) = m_length σ := rfl
theorem mgs_madeOf_kind (σ : mS) (x : Nat → Int32) : m_madeOf (m_s_kind σ x) = m_madeOf σ := rfl
theorem mgs_a_kind (σ : mS) (x : Nat → Int32) : m_a (m_s_kind σ x) = m_a σ := rfl
theorem mgs_b_kind (σ : mS) (x : Nat → Int32) : m_b (m_s_kind σ x) = m_b σ := rfl
theorem mgs_units_kind (σ : mS) (x : Nat → Int32) : m_units (m_s_kind σ x) = m_units σ := rfl
theorem mgs_spread_kind (σ : mS) (x : Nat → Int32) : m_spread (m_s_kind σ x) = m_spread σ := rfl
theorem mgs_there_kind (σ : mS) (x : Nat → Int32) : m_there (m_s_kind σ x) = m_there σ := rfl
theorem mgs_waiting_kind (σ : mS) (x : Nat → Int32) : m_waiting (m_s_kind σ x) = m_waiting σ := rfl
theorem mgs_wait_kind (σ : mS) (x : Nat → Int32) : m_wait (m_s_kind σ x) = m_wait σ := rfl
theorem mgs_thrown_links (σ : mS) (x : Nat → Int32) : m_thrown (m_s_links σ x) = m_thrown σ := rfl
theorem mgs_limit_links (σ : mS) (x : Nat → Int32) : m_limit (m_s_links σ x) = m_limit σ := rfl
theorem mgs_root_links (σ : mS) (x : Nat → Int32) : m_root (m_s_links σ x) = m_root σ := rfl
theorem mgs_objects_links (σ : mS) (x : Nat → Int32) : m_objects (m_s_links σ x) = m_objects σ := rfl
theorem mgs_kind_links (σ : mS) (x : Nat → Int32) : m_kind (m_s_links σ x) = m_kind σ := rfl
theorem mgs_links_links (σ : mS) (x : Nat → Int32) : m_links (m_s_links σ x) = x := rfl
theorem mgs_values_links (σ : mS) (x : Nat → Int32) : m_values (m_s_links σ x) = m_values σ := rfl
theorem mgs_plain_links (σ : mS) (x : Nat → Int32) : m_plain (m_s_links σ x) = m_plain σ := rfl
theorem mgs_link_links (σ : mS) (x : Nat → Int32) : m_link (m_s_links σ x) = m_link σ := rfl
theorem mgs_number_links (σ : mS) (x : Nat → Int32) : m_number (m_s_links σ x) = m_number σ := rfl
theorem mgs_refers_links (σ : mS) (x : Nat → Int32) : m_refers (m_s_links σ x) = m_refers σ := rfl
theorem mgs_word_links (σ : mS) (x : Nat → Int32) : m_word (m_s_links σ x) = m_word σ := rfl
theorem mgs_length_links (σ : mS) (x : Nat → Int32) : m_length (m_s_links σ x) = m_length σ := rfl
theorem mgs_madeOf_links (σ : mS) (x : Nat → Int32) : m_madeOf (m_s_links σ x) = m_madeOf σ := rfl
theorem mgs_a_links (σ : mS) (x : Nat → Int32) : m_a (m_s_links σ x) = m_a σ := rfl
theorem mgs_b_links (σ : mS) (x : Nat → Int32) : m_b (m_s_links σ x) = m_b σ := rfl
theorem mgs_units_links (σ : mS) (x : Nat → Int32) : m_units (m_s_links σ x) = m_units σ := rfl
theorem mgs_spread_links (σ : mS) (x : Nat → Int32) : m_spread (m_s_links σ x) = m_spread σ := rfl
theorem mgs_there_links (σ : mS) (x : Nat → Int32) : m_there (m_s_links σ x) = m_there σ := rfl
theorem mgs_waiting_links (σ : mS) (x : Nat → Int32) : m_waiting (m_s_links σ x) = m_waiting σ := rfl
theorem mgs_wait_links (σ : mS) (x : Nat → Int32) : m_wait (m_s_links σ x) = m_wait σ := rfl
theorem mgs_thrown_values (σ : mS) (x : Nat → Int32) : m_thrown (m_s_values σ x) = m_thrown σ := rfl
theorem mgs_limit_values (σ : mS) (x : Nat → Int32) : m_limit (m_s_values σ x) = m_limit σ := rfl
theorem mgs_root_values (σ : mS) (x : Nat → Int32) : m_root (m_s_values σ x) = m_root σ := rfl
theorem mgs_objects_values (σ : mS) (x : Nat → Int32) : m_objects (m_s_values σ x) = m_objects σ := rfl
theorem mgs_kind_values (σ : mS) (x : Nat → Int32) : m_kind (m_s_values σ x) = m_kind σ := rfl
theorem mgs_links_values (σ : mS) (x : Nat → Int32) : m_links (m_s_values σ x) = m_links σ := rfl
theorem mgs_values_values (σ : mS) (x : Nat → Int32) : m_values (m_s_values σ x) = x := rfl
theorem mgs_plain_values (σ : mS) (x : Nat → Int32) : m_plain (m_s_values σ x) = m_plain σ := rfl
theorem mgs_link_values (σ : mS) (x : Nat → Int32) : m_link (m_s_values σ x) = m_link σ := rfl
theorem mgs_number_values (σ : mS) (x : Nat → Int32) : m_number (m_s_values σ x) = m_number σ := rfl
theorem mgs_refers_values (σ : mS) (x : Nat → Int32) : m_refers (m_s_values σ x) = m_refers σ := rfl
theorem mgs_word_values (σ : mS) (x : Nat → Int32) : m_word (m_s_values σ x) = m_word σ := rfl
theorem mgs_length_values (σ : mS) (x : Nat → Int32) : m_length (m_s_values σ x) = m_length σ := rfl
theorem mgs_madeOf_values (σ : mS) (x : Nat → Int32) : m_madeOf (m_s_values σ x) = m_madeOf σ := rfl
theorem mgs_a_values (σ : mS) (x : Nat → Int32) : m_a (m_s_values σ x) = m_a σ := rfl
theorem mgs_b_values (σ : mS) (x : Nat → Int32) : m_b (m_s_values σ x) = m_b σ := rfl
theorem mgs_units_values (σ : mS) (x : Nat → Int32) : m_units (m_s_values σ x) = m_units σ := rfl
theorem mgs_spread_values (σ : mS) (x : Nat → Int32) : m_spread (m_s_values σ x) = m_spread σ := rfl
theorem mgs_there_values (σ : mS) (x : Nat → Int32) : m_there (m_s_values σ x) = m_there σ := rfl
theorem mgs_waiting_values (σ : mS) (x : Nat → Int32) : m_waiting (m_s_values σ x) = m_waiting σ := rfl
theorem mgs_wait_values (σ : mS) (x : Nat → Int32) : m_wait (m_s_values σ x) = m_wait σ := rfl
theorem mgs_thrown_plain (σ : mS) (x : Nat → Int32) : m_thrown (m_s_plain σ x) = m_thrown σ := rfl
theorem mgs_limit_plain (σ : mS) (x : Nat → Int32) : m_limit (m_s_plain σ x) = m_limit σ := rfl
theorem mgs_root_plain (σ : mS) (x : Nat → Int32) : m_root (m_s_plain σ x) = m_root σ := rfl
theorem mgs_objects_plain (σ : mS) (x : Nat → Int32) : m_objects (m_s_plain σ x) = m_objects σ := rfl
theorem mgs_kind_plain (σ : mS) (x : Nat → Int32) : m_kind (m_s_plain σ x) = m_kind σ := rfl
theorem mgs_links_plain (σ : mS) (x : Nat → Int32) : m_links (m_s_plain σ x) = m_links σ := rfl
theorem mgs_values_plain (σ : mS) (x : Nat → Int32) : m_values (m_s_plain σ x) = m_values σ := rfl
theorem mgs_plain_plain (σ : mS) (x : Nat → Int32) : m_plain (m_s_plain σ x) = x := rfl
theorem mgs_link_plain (σ : mS) (x : Nat → Int32) : m_link (m_s_plain σ x) = m_link σ := rfl
theorem mgs_number_plain (σ : mS) (x : Nat → Int32) : m_number (m_s_plain σ x) = m_number σ := rfl
theorem mgs_refers_plain (σ : mS) (x : Nat → Int32) : m_refers (m_s_plain σ x) = m_refers σ := rfl
theorem mgs_word_plain (σ : mS) (x : Nat → Int32) : m_word (m_s_plain σ x) = m_word σ := rfl
theorem mgs_length_plain (σ : mS) (x : Nat → Int32) : m_length (m_s_plain σ x) = m_length σ := rfl
theorem mgs_madeOf_plain (σ : mS) (x : Nat → Int32) : m_madeOf (m_s_plain σ x) = m_madeOf σ := rfl
theorem mgs_a_plain (σ : mS) (x : Nat → Int32) : m_a (m_s_plain σ x) = m_a σ := rfl
theorem mgs_b_plain (σ : mS) (x : Nat → Int32) : m_b (m_s_plain σ x) = m_b σ := rfl
theorem mgs_units_plain (σ : mS) (x : Nat → Int32) : m_units (m_s_plain σ x) = m_units σ := rfl
theorem mgs_spread_plain (σ : mS) (x : Nat → Int32) : m_spread (m_s_plain σ x) = m_spread σ := rfl
theorem mgs_there_plain (σ : mS) (x : Nat → Int32) : m_there (m_s_plain σ x) = m_there σ := rfl
theorem mgs_waiting_plain (σ : mS) (x : Nat → Int32) : m_waiting (m_s_plain σ x) = m_waiting σ := rfl
theorem mgs_wait_plain (σ : mS) (x : Nat → Int32) : m_wait (m_s_plain σ x) = m_wait σ := rfl
theorem mgs_thrown_link (σ : mS) (x : Nat → Int32) : m_thrown (m_s_link σ x) = m_thrown σ := rfl
theorem mgs_limit_link (σ : mS) (x : Nat → Int32) : m_limit (m_s_link σ x) = m_limit σ := rfl
theorem mgs_root_link (σ : mS) (x : Nat → Int32) : m_root (m_s_link σ x) = m_root σ := rfl
theorem mgs_objects_link (σ : mS) (x : Nat → Int32) : m_objects (m_s_link σ x) = m_objects σ := rfl
theorem mgs_kind_link (σ : mS) (x : Nat → Int32) : m_kind (m_s_link σ x) = m_kind σ := rfl
theorem mgs_links_link (σ : mS) (x : Nat → Int32) : m_links (m_s_link σ x) = m_links σ := rfl
theorem mgs_values_link (σ : mS) (x : Nat → Int32) : m_values (m_s_link σ x) = m_values σ := rfl
theorem mgs_plain_link (σ : mS) (x : Nat → Int32) : m_plain (m_s_link σ x) = m_plain σ := rfl
theorem mgs_link_link (σ : mS) (x : Nat → Int32) : m_link (m_s_link σ x) = x := rfl
theorem mgs_number_link (σ : mS) (x : Nat → Int32) : m_number (m_s_link σ x) = m_number σ := rfl
theorem mgs_refers_link (σ : mS) (x : Nat → Int32) : m_refers (m_s_link σ x) = m_refers σ := rfl
theorem mgs_word_link (σ : mS) (x : Nat → Int32) : m_word (m_s_link σ x) = m_word σ := rfl
theorem mgs_length_link (σ : mS) (x : Nat → Int32) : m_length (m_s_link σ x) = m_length σ := rfl
theorem mgs_madeOf_link (σ : mS) (x : Nat → Int32) : m_madeOf (m_s_link σ x) = m_madeOf σ := rfl
theorem mgs_a_link (σ : mS) (x : Nat → Int32) : m_a (m_s_link σ x) = m_a σ := rfl
theorem mgs_b_link (σ : mS) (x : Nat → Int32) : m_b (m_s_link σ x) = m_b σ := rfl
theorem mgs_units_link (σ : mS) (x : Nat → Int32) : m_units (m_s_link σ x) = m_units σ := rfl
theorem mgs_spread_link (σ : mS) (x : Nat → Int32) : m_spread (m_s_link σ x) = m_spread σ := rfl
theorem mgs_there_link (σ : mS) (x : Nat → Int32) : m_there (m_s_link σ x) = m_there σ := rfl
theorem mgs_waiting_link (σ : mS) (x : Nat → Int32) : m_waiting (m_s_link σ x) = m_waiting σ := rfl
theorem mgs_wait_link (σ : mS) (x : Nat → Int32) : m_wait (m_s_link σ x) = m_wait σ := rfl
theorem mgs_thrown_number (σ : mS) (x : Nat → Int64) : m_thrown (m_s_number σ x) = m_thrown σ := rfl
theorem mgs_limit_number (σ : mS) (x : Nat → Int64) : m_limit (m_s_number σ x) = m_limit σ := rfl
theorem mgs_root_number (σ : mS) (x : Nat → Int64) : m_root (m_s_number σ x) = m_root σ := rfl
theorem mgs_objects_number (σ : mS) (x : Nat → Int64) : m_objects (m_s_number σ x) = m_objects σ := rfl
theorem mgs_kind_number (σ : mS) (x : Nat → Int64) : m_kind (m_s_number σ x) = m_kind σ := rfl
theorem mgs_links_number (σ : mS) (x : Nat → Int64) : m_links (m_s_number σ x) = m_links σ := rfl
theorem mgs_values_number (σ : mS) (x : Nat → Int64) : m_values (m_s_number σ x) = m_values σ := rfl
theorem mgs_plain_number (σ : mS) (x : Nat → Int64) : m_plain (m_s_number σ x) = m_plain σ := rfl
theorem mgs_link_number (σ : mS) (x : Nat → Int64) : m_link (m_s_number σ x) = m_link σ := rfl
theorem mgs_number_number (σ : mS) (x : Nat → Int64) : m_number (m_s_number σ x) = x := rfl
theorem mgs_refers_number (σ : mS) (x : Nat → Int64) : m_refers (m_s_number σ x) = m_refers σ := rfl
theorem mgs_word_number (σ : mS) (x : Nat → Int64) : m_word (m_s_number σ x) = m_word σ := rfl
theorem mgs_length_number (σ : mS) (x : Nat → Int64) : m_length (m_s_number σ x) = m_length σ := rfl
theorem mgs_madeOf_number (σ : mS) (x : Nat → Int64) : m_madeOf (m_s_number σ x) = m_madeOf σ := rfl
theorem mgs_a_number (σ : mS) (x : Nat → Int64) : m_a (m_s_number σ x) = m_a σ := rfl
theorem mgs_b_number (σ : mS) (x : Nat → Int64) : m_b (m_s_number σ x) = m_b σ := rfl
theorem mgs_units_number (σ : mS) (x : Nat → Int64) : m_units (m_s_number σ x) = m_units σ := rfl
theorem mgs_spread_number (σ : mS) (x : Nat → Int64) : m_spread (m_s_number σ x) = m_spread σ := rfl
theorem mgs_there_number (σ : mS) (x : Nat → Int64) : m_there (m_s_number σ x) = m_there σ := rfl
theorem mgs_waiting_number (σ : mS) (x : Nat → Int64) : m_waiting (m_s_number σ x) = m_waiting σ := rfl
theorem mgs_wait_number (σ : mS) (x : Nat → Int64) : m_wait (m_s_number σ x) = m_wait σ := rfl
theorem mgs_thrown_refers (σ : mS) (x : Nat → Int32) : m_thrown (m_s_refers σ x) = m_thrown σ := rfl
theorem mgs_limit_refers (σ : mS) (x : Nat → Int32) : m_limit (m_s_refers σ x) = m_limit σ := rfl
theorem mgs_root_refers (σ : mS) (x : Nat → Int32) : m_root (m_s_refers σ x) = m_root σ := rfl
theorem mgs_objects_refers (σ : mS) (x : Nat → Int32) : m_objects (m_s_refers σ x) = m_objects σ := rfl
theorem mgs_kind_refers (σ : mS) (x : Nat → Int32) : m_kind (m_s_refers σ x) = m_kind σ := rfl
theorem mgs_links_refers (σ : mS) (x : Nat → Int32) : m_links (m_s_refers σ x) = m_links σ := rfl
theorem mgs_values_refers (σ : mS) (x : Nat → Int32) : m_values (m_s_refers σ x) = m_values σ := rfl
theorem mgs_plain_refers (σ : mS) (x : Nat → Int32) : m_plain (m_s_refers σ x) = m_plain σ := rfl
theorem mgs_link_refers (σ : mS) (x : Nat → Int32) : m_link (m_s_refers σ x) = m_link σ := rfl
theorem mgs_number_refers (σ : mS) (x : Nat → Int32) : m_number (m_s_refers σ x) = m_number σ := rfl
theorem mgs_refers_refers (σ : mS) (x : Nat → Int32) : m_refers (m_s_refers σ x) = x := rfl
theorem mgs_word_refers (σ : mS) (x : Nat → Int32) : m_word (m_s_refers σ x) = m_word σ := rfl
theorem mgs_length_refers (σ : mS) (x : Nat → Int32) : m_length (m_s_refers σ x) = m_length σ := rfl
theorem mgs_madeOf_refers (σ : mS) (x : Nat → Int32) : m_madeOf (m_s_refers σ x) = m_madeOf σ := rfl
theorem mgs_a_refers (σ : mS) (x : Nat → Int32) : m_a (m_s_refers σ x) = m_a σ := rfl
theorem mgs_b_refers (σ : mS) (x : Nat → Int32) : m_b (m_s_refers σ x) = m_b σ := rfl
theorem mgs_units_refers (σ : mS) (x : Nat → Int32) : m_units (m_s_refers σ x) = m_units σ := rfl
theorem mgs_spread_refers (σ : mS) (x : Nat → Int32) : m_spread (m_s_refers σ x) = m_spread σ := rfl
theorem mgs_there_refers (σ : mS) (x : Nat → Int32) : m_there (m_s_refers σ x) = m_there σ := rfl
theorem mgs_waiting_refers (σ : mS) (x : Nat → Int32) : m_waiting (m_s_refers σ x) = m_waiting σ := rfl
theorem mgs_wait_refers (σ : mS) (x : Nat → Int32) : m_wait (m_s_refers σ x) = m_wait σ := rfl
theorem mgs_thrown_word (σ : mS) (x : Nat → Int32) : m_thrown (m_s_word σ x) = m_thrown σ := rfl
theorem mgs_limit_word (σ : mS) (x : Nat → Int32) : m_limit (m_s_word σ x) = m_limit σ := rfl
theorem mgs_root_word (σ : mS) (x : Nat → Int32) : m_root (m_s_word σ x) = m_root σ := rfl
theorem mgs_objects_word (σ : mS) (x : Nat → Int32) : m_objects (m_s_word σ x) = m_objects σ := rfl
theorem mgs_kind_word (σ : mS) (x : Nat → Int32) : m_kind (m_s_word σ x) = m_kind σ := rfl
theorem mgs_links_word (σ : mS) (x : Nat → Int32) : m_links (m_s_word σ x) = m_links σ := rfl
theorem mgs_values_word (σ : mS) (x : Nat → Int32) : m_values (m_s_word σ x) = m_values σ := rfl
theorem mgs_plain_word (σ : mS) (x : Nat → Int32) : m_plain (m_s_word σ x) = m_plain σ := rfl
theorem mgs_link_word (σ : mS) (x : Nat → Int32) : m_link (m_s_word σ x) = m_link σ := rfl
theorem mgs_number_word (σ : mS) (x : Nat → Int32) : m_number (m_s_word σ x) = m_number σ := rfl
theorem mgs_refers_word (σ : mS) (x : Nat → Int32) : m_refers (m_s_word σ x) = m_refers σ := rfl
theorem mgs_word_word (σ : mS) (x : Nat → Int32) : m_word (m_s_word σ x) = x := rfl
theorem mgs_length_word (σ : mS) (x : Nat → Int32) : m_length (m_s_word σ x) = m_length σ := rfl
theorem mgs_madeOf_word (σ : mS) (x : Nat → Int32) : m_madeOf (m_s_word σ x) = m_madeOf σ := rfl
theorem mgs_a_word (σ : mS) (x : Nat → Int32) : m_a (m_s_word σ x) = m_a σ := rfl
theorem mgs_b_word (σ : mS) (x : Nat → Int32) : m_b (m_s_word σ x) = m_b σ := rfl
theorem mgs_units_word (σ : mS) (x : Nat → Int32) : m_units (m_s_word σ x) = m_units σ := rfl
theorem mgs_spread_word (σ : mS) (x : Nat → Int32) : m_spread (m_s_word σ x) = m_spread σ := rfl
theorem mgs_there_word (σ : mS) (x : Nat → Int32) : m_there (m_s_word σ x) = m_there σ := rfl
theorem mgs_waiting_word (σ : mS) (x : Nat → Int32) : m_waiting (m_s_word σ x) = m_waiting σ := rfl
theorem mgs_wait_word (σ : mS) (x : Nat → Int32) : m_wait (m_s_word σ x) = m_wait σ := rfl
theorem mgs_thrown_length (σ : mS) (x : Nat → Int32) : m_thrown (m_s_length σ x) = m_thrown σ := rfl
theorem mgs_limit_length (σ : mS) (x : Nat → Int32) : m_limit (m_s_length σ x) = m_limit σ := rfl
theorem mgs_root_length (σ : mS) (x : Nat → Int32) : m_root (m_s_length σ x) = m_root σ := rfl
theorem mgs_objects_length (σ : mS) (x : Nat → Int32) : m_objects (m_s_length σ x) = m_objects σ := rfl
theorem mgs_kind_length (σ : mS) (x : Nat → Int32) : m_kind (m_s_length σ x) = m_kind σ := rfl
theorem mgs_links_length (σ : mS) (x : Nat → Int32) : m_links (m_s_length σ x) = m_links σ := rfl
theorem mgs_values_length (σ : mS) (x : Nat → Int32) : m_values (m_s_length σ x) = m_values σ := rfl
theorem mgs_plain_length (σ : mS) (x : Nat → Int32) : m_plain (m_s_length σ x) = m_plain σ := rfl
theorem mgs_link_length (σ : mS) (x : Nat → Int32) : m_link (m_s_length σ x) = m_link σ := rfl
theorem mgs_number_length (σ : mS) (x : Nat → Int32) : m_number (m_s_length σ x) = m_number σ := rfl
theorem mgs_refers_length (σ : mS) (x : Nat → Int32) : m_refers (m_s_length σ x) = m_refers σ := rfl
theorem mgs_word_length (σ : mS) (x : Nat → Int32) : m_word (m_s_length σ x) = m_word σ := rfl
theorem mgs_length_length (σ : mS) (x : Nat → Int32) : m_length (m_s_length σ x) = x := rfl
theorem mgs_madeOf_length (σ : mS) (x : Nat → Int32) : m_madeOf (m_s_length σ x) = m_madeOf σ := rfl
theorem mgs_a_length (σ : mS) (x : Nat → Int32) : m_a (m_s_length σ x) = m_a σ := rfl
theorem mgs_b_length (σ : mS) (x : Nat → Int32) : m_b (m_s_length σ x) = m_b σ := rfl
theorem mgs_units_length (σ : mS) (x : Nat → Int32) : m_units (m_s_length σ x) = m_units σ := rfl
theorem mgs_spread_length (σ : mS) (x : Nat → Int32) : m_spread (m_s_length σ x) = m_spread σ := rfl
theorem mgs_there_length (σ : mS) (x : Nat → Int32) : m_there (m_s_length σ x) = m_there σ := rfl
theorem mgs_waiting_length (σ : mS) (x : Nat → Int32) : m_waiting (m_s_length σ x) = m_waiting σ := rfl
theorem mgs_wait_length (σ : mS) (x : Nat → Int32) : m_wait (m_s_length σ x) = m_wait σ := rfl
theorem mgs_thrown_madeOf (σ : mS) (x : Nat → Int32) : m_thrown (m_s_madeOf σ x) = m_thrown σ := rfl
theorem mgs_limit_madeOf (σ : mS) (x : Nat → Int32) : m_limit (m_s_madeOf σ x) = m_limit σ := rfl
theorem mgs_root_madeOf (σ : mS) (x : Nat → Int32) : m_root (m_s_madeOf σ x) = m_root σ := rfl
theorem mgs_objects_madeOf (σ : mS) (x : Nat → Int32) : m_objects (m_s_madeOf σ x) = m_objects σ := rfl
theorem mgs_kind_madeOf (σ : mS) (x : Nat → Int32) : m_kind (m_s_madeOf σ x) = m_kind σ := rfl
theorem mgs_links_madeOf (σ : mS) (x : Nat → Int32) : m_links (m_s_madeOf σ x) = m_links σ := rfl
theorem mgs_values_madeOf (σ : mS) (x : Nat → Int32) : m_values (m_s_madeOf σ x) = m_values σ := rfl
theorem mgs_plain_madeOf (σ : mS) (x : Nat → Int32) : m_plain (m_s_madeOf σ x) = m_plain σ := rfl
theorem mgs_link_madeOf (σ : mS) (x : Nat → Int32) : m_link (m_s_madeOf σ x) = m_link σ := rfl
theorem mgs_number_madeOf (σ : mS) (x : Nat → Int32) : m_number (m_s_madeOf σ x) = m_number σ := rfl
theorem mgs_refers_madeOf (σ : mS) (x : Nat → Int32) : m_refers (m_s_madeOf σ x) = m_refers σ := rfl
theorem mgs_word_madeOf (σ : mS) (x : Nat → Int32) : m_word (m_s_madeOf σ x) = m_word σ := rfl
theorem mgs_length_madeOf (σ : mS) (x : Nat → Int32) : m_length (m_s_madeOf σ x) = m_length σ := rfl
theorem mgs_madeOf_madeOf (σ : mS) (x : Nat → Int32) : m_madeOf (m_s_madeOf σ x) = x := rfl
theorem mgs_a_madeOf (σ : mS) (x : Nat → Int32) : m_a (m_s_madeOf σ x) = m_a σ := rfl
theorem mgs_b_madeOf (σ : mS) (x : Nat → Int32) : m_b (m_s_madeOf σ x) = m_b σ := rfl
theorem mgs_units_madeOf (σ : mS) (x : Nat → Int32) : m_units (m_s_madeOf σ x) = m_units σ := rfl
theorem mgs_spread_madeOf (σ : mS) (x : Nat → Int32) : m_spread (m_s_madeOf σ x) = m_spread σ := rfl
theorem mgs_there_madeOf (σ : mS) (x : Nat → Int32) : m_there (m_s_madeOf σ x) = m_there σ := rfl
theorem mgs_waiting_madeOf (σ : mS) (x : Nat → Int32) : m_waiting (m_s_madeOf σ x) = m_waiting σ := rfl
theorem mgs_wait_madeOf (σ : mS) (x : Nat → Int32) : m_wait (m_s_madeOf σ x) = m_wait σ := rfl
theorem mgs_thrown_a (σ : mS) (x : Nat → Int32) : m_thrown (m_s_a σ x) = m_thrown σ := rfl
theorem mgs_limit_a (σ : mS) (x : Nat → Int32) : m_limit (m_s_a σ x) = m_limit σ := rfl
theorem mgs_root_a (σ : mS) (x : Nat → Int32) : m_root (m_s_a σ x) = m_root σ := rfl
theorem mgs_objects_a (σ : mS) (x : Nat → Int32) : m_objects (m_s_a σ x) = m_objects σ := rfl
theorem mgs_kind_a (σ : mS) (x : Nat → Int32) : m_kind (m_s_a σ x) = m_kind σ := rfl
theorem mgs_links_a (σ : mS) (x : Nat → Int32) : m_links (m_s_a σ x) = m_links σ := rfl
theorem mgs_values_a (σ : mS) (x : Nat → Int32) : m_values (m_s_a σ x) = m_values σ := rfl
theorem mgs_plain_a (σ : mS) (x : Nat → Int32) : m_plain (m_s_a σ x) = m_plain σ := rfl
theorem mgs_link_a (σ : mS) (x : Nat → Int32) : m_link (m_s_a σ x) = m_link σ := rfl
theorem mgs_number_a (σ : mS) (x : Nat → Int32) : m_number (m_s_a σ x) = m_number σ := rfl
theorem mgs_refers_a (σ : mS) (x : Nat → Int32) : m_refers (m_s_a σ x) = m_refers σ := rfl
theorem mgs_word_a (σ : mS) (x : Nat → Int32) : m_word (m_s_a σ x) = m_word σ := rfl
theorem mgs_length_a (σ : mS) (x : Nat → Int32) : m_length (m_s_a σ x) = m_length σ := rfl
theorem mgs_madeOf_a (σ : mS) (x : Nat → Int32) : m_madeOf (m_s_a σ x) = m_madeOf σ := rfl
theorem mgs_a_a (σ : mS) (x : Nat → Int32) : m_a (m_s_a σ x) = x := rfl
theorem mgs_b_a (σ : mS) (x : Nat → Int32) : m_b (m_s_a σ x) = m_b σ := rfl
theorem mgs_units_a (σ : mS) (x : Nat → Int32) : m_units (m_s_a σ x) = m_units σ := rfl
theorem mgs_spread_a (σ : mS) (x : Nat → Int32) : m_spread (m_s_a σ x) = m_spread σ := rfl
theorem mgs_there_a (σ : mS) (x : Nat → Int32) : m_there (m_s_a σ x) = m_there σ := rfl
theorem mgs_waiting_a (σ : mS) (x : Nat → Int32) : m_waiting (m_s_a σ x) = m_waiting σ := rfl
theorem mgs_wait_a (σ : mS) (x : Nat → Int32) : m_wait (m_s_a σ x) = m_wait σ := rfl
theorem mgs_thrown_b (σ : mS) (x : Nat → Int32) : m_thrown (m_s_b σ x) = m_thrown σ := rfl
theorem mgs_limit_b (σ : mS) (x : Nat → Int32) : m_limit (m_s_b σ x) = m_limit σ := rfl
theorem mgs_root_b (σ : mS) (x : Nat → Int32) : m_root (m_s_b σ x) = m_root σ := rfl
theorem mgs_objects_b (σ : mS) (x : Nat → Int32) : m_objects (m_s_b σ x) = m_objects σ := rfl
theorem mgs_kind_b (σ : mS) (x : Nat → Int32) : m_kind (m_s_b σ x) = m_kind σ := rfl
theorem mgs_links_b (σ : mS) (x : Nat → Int32) : m_links (m_s_b σ x) = m_links σ := rfl
theorem mgs_values_b (σ : mS) (x : Nat → Int32) : m_values (m_s_b σ x) = m_values σ := rfl
theorem mgs_plain_b (σ : mS) (x : Nat → Int32) : m_plain (m_s_b σ x) = m_plain σ := rfl
theorem mgs_link_b (σ : mS) (x : Nat → Int32) : m_link (m_s_b σ x) = m_link σ := rfl
theorem mgs_number_b (σ : mS) (x : Nat → Int32) : m_number (m_s_b σ x) = m_number σ := rfl
theorem mgs_refers_b (σ : mS) (x : Nat → Int32) : m_refers (m_s_b σ x) = m_refers σ := rfl
theorem mgs_word_b (σ : mS) (x : Nat → Int32) : m_word (m_s_b σ x) = m_word σ := rfl
theorem mgs_length_b (σ : mS) (x : Nat → Int32) : m_length (m_s_b σ x) = m_length σ := rfl
theorem mgs_madeOf_b (σ : mS) (x : Nat → Int32) : m_madeOf (m_s_b σ x) = m_madeOf σ := rfl
theorem mgs_a_b (σ : mS) (x : Nat → Int32) : m_a (m_s_b σ x) = m_a σ := rfl
theorem mgs_b_b (σ : mS) (x : Nat → Int32) : m_b (m_s_b σ x) = x := rfl
theorem mgs_units_b (σ : mS) (x : Nat → Int32) : m_units (m_s_b σ x) = m_units σ := rfl
theorem mgs_spread_b (σ : mS) (x : Nat → Int32) : m_spread (m_s_b σ x) = m_spread σ := rfl
theorem mgs_there_b (σ : mS) (x : Nat → Int32) : m_there (m_s_b σ x) = m_there σ := rfl
theorem mgs_waiting_b (σ : mS) (x : Nat → Int32) : m_waiting (m_s_b σ x) = m_waiting σ := rfl
theorem mgs_wait_b (σ : mS) (x : Nat → Int32) : m_wait (m_s_b σ x) = m_wait σ := rfl
theorem mgs_thrown_units (σ : mS) (x : Nat → Int64) : m_thrown (m_s_units σ x) = m_thrown σ := rfl
theorem mgs_limit_units (σ : mS) (x : Nat → Int64) : m_limit (m_s_units σ x) = m_limit σ := rfl
theorem mgs_root_units (σ : mS) (x : Nat → Int64) : m_root (m_s_units σ x) = m_root σ := rfl
theorem mgs_objects_units (σ : mS) (x : Nat → Int64) : m_objects (m_s_units σ x) = m_objects σ := rfl
theorem mgs_kind_units (σ : mS) (x : Nat → Int64) : m_kind (m_s_units σ x) = m_kind σ := rfl
theorem mgs_links_units (σ : mS) (x : Nat → Int64) : m_links (m_s_units σ x) = m_links σ := rfl
theorem mgs_values_units (σ : mS) (x : Nat → Int64) : m_values (m_s_units σ x) = m_values σ := rfl
theorem mgs_plain_units (σ : mS) (x : Nat → Int64) : m_plain (m_s_units σ x) = m_plain σ := rfl
theorem mgs_link_units (σ : mS) (x : Nat → Int64) : m_link (m_s_units σ x) = m_link σ := rfl
theorem mgs_number_units (σ : mS) (x : Nat → Int64) : m_number (m_s_units σ x) = m_number σ := rfl
theorem mgs_refers_units (σ : mS) (x : Nat → Int64) : m_refers (m_s_units σ x) = m_refers σ := rfl
theorem mgs_word_units (σ : mS) (x : Nat → Int64) : m_word (m_s_units σ x) = m_word σ := rfl
theorem mgs_length_units (σ : mS) (x : Nat → Int64) : m_length (m_s_units σ x) = m_length σ := rfl
theorem mgs_madeOf_units (σ : mS) (x : Nat → Int64) : m_madeOf (m_s_units σ x) = m_madeOf σ := rfl
theorem mgs_a_units (σ : mS) (x : Nat → Int64) : m_a (m_s_units σ x) = m_a σ := rfl
theorem mgs_b_units (σ : mS) (x : Nat → Int64) : m_b (m_s_units σ x) = m_b σ := rfl
theorem mgs_units_units (σ : mS) (x : Nat → Int64) : m_units (m_s_units σ x) = x := rfl
theorem mgs_spread_units (σ : mS) (x : Nat → Int64) : m_spread (m_s_units σ x) = m_spread σ := rfl
theorem mgs_there_units (σ : mS) (x : Nat → Int64) : m_there (m_s_units σ x) = m_there σ := rfl
theorem mgs_waiting_units (σ : mS) (x : Nat → Int64) : m_waiting (m_s_units σ x) = m_waiting σ := rfl
theorem mgs_wait_units (σ : mS) (x : Nat → Int64) : m_wait (m_s_units σ x) = m_wait σ := rfl
theorem mgs_thrown_spread (σ : mS) (x : Nat → Int32) : m_thrown (m_s_spread σ x) = m_thrown σ := rfl
theorem mgs_limit_spread (σ : mS) (x : Nat → Int32) : m_limit (m_s_spread σ x) = m_limit σ := rfl
theorem mgs_root_spread (σ : mS) (x : Nat → Int32) : m_root (m_s_spread σ x) = m_root σ := rfl
theorem mgs_objects_spread (σ : mS) (x : Nat → Int32) : m_objects (m_s_spread σ x) = m_objects σ := rfl
theorem mgs_kind_spread (σ : mS) (x : Nat → Int32) : m_kind (m_s_spread σ x) = m_kind σ := rfl
theorem mgs_links_spread (σ : mS) (x : Nat → Int32) : m_links (m_s_spread σ x) = m_links σ := rfl
theorem mgs_values_spread (σ : mS) (x : Nat → Int32) : m_values (m_s_spread σ x) = m_values σ := rfl
theorem mgs_plain_spread (σ : mS) (x : Nat → Int32) : m_plain (m_s_spread σ x) = m_plain σ := rfl
theorem mgs_link_spread (σ : mS) (x : Nat → Int32) : m_link (m_s_spread σ x) = m_link σ := rfl
theorem mgs_number_spread (σ : mS) (x : Nat → Int32) : m_number (m_s_spread σ x) = m_number σ := rfl
theorem mgs_refers_spread (σ : mS) (x : Nat → Int32) : m_refers (m_s_spread σ x) = m_refers σ := rfl
theorem mgs_word_spread (σ : mS) (x : Nat → Int32) : m_word (m_s_spread σ x) = m_word σ := rfl
theorem mgs_length_spread (σ : mS) (x : Nat → Int32) : m_length (m_s_spread σ x) = m_length σ := rfl
theorem mgs_madeOf_spread (σ : mS) (x : Nat → Int32) : m_madeOf (m_s_spread σ x) = m_madeOf σ := rfl
theorem mgs_a_spread (σ : mS) (x : Nat → Int32) : m_a (m_s_spread σ x) = m_a σ := rfl
theorem mgs_b_spread (σ : mS) (x : Nat → Int32) : m_b (m_s_spread σ x) = m_b σ := rfl
theorem mgs_units_spread (σ : mS) (x : Nat → Int32) : m_units (m_s_spread σ x) = m_units σ := rfl
theorem mgs_spread_spread (σ : mS) (x : Nat → Int32) : m_spread (m_s_spread σ x) = x := rfl
theorem mgs_there_spread (σ : mS) (x : Nat → Int32) : m_there (m_s_spread σ x) = m_there σ := rfl
theorem mgs_waiting_spread (σ : mS) (x : Nat → Int32) : m_waiting (m_s_spread σ x) = m_waiting σ := rfl
theorem mgs_wait_spread (σ : mS) (x : Nat → Int32) : m_wait (m_s_spread σ x) = m_wait σ := rfl
theorem mgs_thrown_there (σ : mS) (x : Nat → Int32) : m_thrown (m_s_there σ x) = m_thrown σ := rfl
theorem mgs_limit_there (σ : mS) (x : Nat → Int32) : m_limit (m_s_there σ x) = m_limit σ := rfl
theorem mgs_root_there (σ : mS) (x : Nat → Int32) : m_root (m_s_there σ x) = m_root σ := rfl
theorem mgs_objects_there (σ : mS) (x : Nat → Int32) : m_objects (m_s_there σ x) = m_objects σ := rfl
theorem mgs_kind_there (σ : mS) (x : Nat → Int32) : m_kind (m_s_there σ x) = m_kind σ := rfl
theorem mgs_links_there (σ : mS) (x : Nat → Int32) : m_links (m_s_there σ x) = m_links σ := rfl
theorem mgs_values_there (σ : mS) (x : Nat → Int32) : m_values (m_s_there σ x) = m_values σ := rfl
theorem mgs_plain_there (σ : mS) (x : Nat → Int32) : m_plain (m_s_there σ x) = m_plain σ := rfl
theorem mgs_link_there (σ : mS) (x : Nat → Int32) : m_link (m_s_there σ x) = m_link σ := rfl
theorem mgs_number_there (σ : mS) (x : Nat → Int32) : m_number (m_s_there σ x) = m_number σ := rfl
theorem mgs_refers_there (σ : mS) (x : Nat → Int32) : m_refers (m_s_there σ x) = m_refers σ := rfl
theorem mgs_word_there (σ : mS) (x : Nat → Int32) : m_word (m_s_there σ x) = m_word σ := rfl
theorem mgs_length_there (σ : mS) (x : Nat → Int32) : m_length (m_s_there σ x) = m_length σ := rfl
theorem mgs_madeOf_there (σ : mS) (x : Nat → Int32) : m_madeOf (m_s_there σ x) = m_madeOf σ := rfl
theorem mgs_a_there (σ : mS) (x : Nat → Int32) : m_a (m_s_there σ x) = m_a σ := rfl
theorem mgs_b_there (σ : mS) (x : Nat → Int32) : m_b (m_s_there σ x) = m_b σ := rfl
theorem mgs_units_there (σ : mS) (x : Nat → Int32) : m_units (m_s_there σ x) = m_units σ := rfl
theorem mgs_spread_there (σ : mS) (x : Nat → Int32) : m_spread (m_s_there σ x) = m_spread σ := rfl
theorem mgs_there_there (σ : mS) (x : Nat → Int32) : m_there (m_s_there σ x) = x := rfl
theorem mgs_waiting_there (σ : mS) (x : Nat → Int32) : m_waiting (m_s_there σ x) = m_waiting σ := rfl
theorem mgs_wait_there (σ : mS) (x : Nat → Int32) : m_wait (m_s_there σ x) = m_wait σ := rfl
theorem mgs_thrown_waiting (σ : mS) (x : Nat → Int32) : m_thrown (m_s_waiting σ x) = m_thrown σ := rfl
theorem mgs_limit_waiting (σ : mS) (x : Nat → Int32) : m_limit (m_s_waiting σ x) = m_limit σ := rfl
theorem mgs_root_waiting (σ : mS) (x : Nat → Int32) : m_root (m_s_waiting σ x) = m_root σ := rfl
theorem mgs_objects_waiting (σ : mS) (x : Nat → Int32) : m_objects (m_s_waiting σ x) = m_objects σ := rfl
theorem mgs_kind_waiting (σ : mS) (x : Nat → Int32) : m_kind (m_s_waiting σ x) = m_kind σ := rfl
theorem mgs_links_waiting (σ : mS) (x : Nat → Int32) : m_links (m_s_waiting σ x) = m_links σ := rfl
theorem mgs_values_waiting (σ : mS) (x : Nat → Int32) : m_values (m_s_waiting σ x) = m_values σ := rfl
theorem mgs_plain_waiting (σ : mS) (x : Nat → Int32) : m_plain (m_s_waiting σ x) = m_plain σ := rfl
theorem mgs_link_waiting (σ : mS) (x : Nat → Int32) : m_link (m_s_waiting σ x) = m_link σ := rfl
theorem mgs_number_waiting (σ : mS) (x : Nat → Int32) : m_number (m_s_waiting σ x) = m_number σ := rfl
theorem mgs_refers_waiting (σ : mS) (x : Nat → Int32) : m_refers (m_s_waiting σ x) = m_refers σ := rfl
theorem mgs_word_waiting (σ : mS) (x : Nat → Int32) : m_word (m_s_waiting σ x) = m_word σ := rfl
theorem mgs_length_waiting (σ : mS) (x : Nat → Int32) : m_length (m_s_waiting σ x) = m_length σ := rfl
theorem mgs_madeOf_waiting (σ : mS) (x : Nat → Int32) : m_madeOf (m_s_waiting σ x) = m_madeOf σ := rfl
theorem mgs_a_waiting (σ : mS) (x : Nat → Int32) : m_a (m_s_waiting σ x) = m_a σ := rfl
theorem mgs_b_waiting (σ : mS) (x : Nat → Int32) : m_b (m_s_waiting σ x) = m_b σ := rfl
theorem mgs_units_waiting (σ : mS) (x : Nat → Int32) : m_units (m_s_waiting σ x) = m_units σ := rfl
theorem mgs_spread_waiting (σ : mS) (x : Nat → Int32) : m_spread (m_s_waiting σ x) = m_spread σ := rfl
theorem mgs_there_waiting (σ : mS) (x : Nat → Int32) : m_there (m_s_waiting σ x) = m_there σ := rfl
theorem mgs_waiting_waiting (σ : mS) (x : Nat → Int32) : m_waiting (m_s_waiting σ x) = x := rfl
theorem mgs_wait_waiting (σ : mS) (x : Nat → Int32) : m_wait (m_s_waiting σ x) = m_wait σ := rfl
theorem mgs_thrown_wait (σ : mS) (x : Int32) : m_thrown (m_s_wait σ x) = m_thrown σ := rfl
theorem mgs_limit_wait (σ : mS) (x : Int32) : m_limit (m_s_wait σ x) = m_limit σ := rfl
theorem mgs_root_wait (σ : mS) (x : Int32) : m_root (m_s_wait σ x) = m_root σ := rfl
theorem mgs_objects_wait (σ : mS) (x : Int32) : m_objects (m_s_wait σ x) = m_objects σ := rfl
theorem mgs_kind_wait (σ : mS) (x : Int32) : m_kind (m_s_wait σ x) = m_kind σ := rfl
theorem mgs_links_wait (σ : mS) (x : Int32) : m_links (m_s_wait σ x) = m_links σ := rfl
theorem mgs_values_wait (σ : mS) (x : Int32) : m_values (m_s_wait σ x) = m_values σ := rfl
theorem mgs_plain_wait (σ : mS) (x : Int32) : m_plain (m_s_wait σ x) = m_plain σ := rfl
theorem mgs_link_wait (σ : mS) (x : Int32) : m_link (m_s_wait σ x) = m_link σ := rfl
theorem mgs_number_wait (σ : mS) (x : Int32) : m_number (m_s_wait σ x) = m_number σ := rfl
theorem mgs_refers_wait (σ : mS) (x : Int32) : m_refers (m_s_wait σ x) = m_refers σ := rfl
theorem mgs_word_wait (σ : mS) (x : Int32) : m_word (m_s_wait σ x) = m_word σ := rfl
theorem mgs_length_wait (σ : mS) (x : Int32) : m_length (m_s_wait σ x) = m_length σ := rfl
theorem mgs_madeOf_wait (σ : mS) (x : Int32) : m_madeOf (m_s_wait σ x) = m_madeOf σ := rfl
theorem mgs_a_wait (σ : mS) (x : Int32) : m_a (m_s_wait σ x) = m_a σ := rfl
theorem mgs_b_wait (σ : mS) (x : Int32) : m_b (m_s_wait σ x) = m_b σ := rfl
theorem mgs_units_wait (σ : mS) (x : Int32) : m_units (m_s_wait σ x) = m_units σ := rfl
theorem mgs_spread_wait (σ : mS) (x : Int32) : m_spread (m_s_wait σ x) = m_spread σ := rfl
theorem mgs_there_wait (σ : mS) (x : Int32) : m_there (m_s_wait σ x) = m_there σ := rfl
theorem mgs_waiting_wait (σ : mS) (x : Int32) : m_waiting (m_s_wait σ x) = m_waiting σ := rfl
theorem mgs_wait_wait (σ : mS) (x : Int32) : m_wait (m_s_wait σ x) = x := rfl
