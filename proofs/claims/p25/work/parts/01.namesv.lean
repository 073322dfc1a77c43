abbrev vwCl : List vw_C := [(RX0, TX0, 2), (RX1, TX1, 10), (RX2, TX2, 7), (RX3, TX3, 6), (RX4, TX4, 11), (RX5, TX5, 5), (RX6, TX6, 7)]
